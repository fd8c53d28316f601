/-! ===== the reference: lessening (by wip/whole/gen_rLess.py) ===== -/
theorem allT {P : Nat → Prop} {k : Nat} (h : ∀ j, j < k → P j) (hk : P k) : ∀ j, j < k + 1 → P j := fun j hj => by
  by_cases e : j = k
  · subst e; exact hk
  · exact h j (by omega)
abbrev flP (w : Nat) (f : Nat → Int32) (u j : Nat) : Prop := w ≤ j % 12 ∨ f (4 * j + u) = 255
abbrev gyP (w : Nat) (f : Nat → Int32) (j : Nat) : Prop := w ≤ j % 12 ∨ (f (4 * j) = f (4 * j + 1) ∧ f (4 * j) = f (4 * j + 2))
abbrev fiP (w : Nat) (f : Nat → Int32) (c j : Nat) : Prop := w ≤ j % 12 ∨ f (4 * j) - f (4 * j) / nI c * nI c = 0
def RD (g : Nat → Int32) (A : Nat → Nat → Int32) (σ : aPic) : Prop := (g 2 = nI σ.1.1 ∧ g 3 = nI σ.1.2.1 ∧ g 4 = nI σ.1.2.2.1 ∧ g 5 = nI σ.1.2.2.2) ∧ SaR (A 0) σ.2.1 σ.1 ∧ okN σ.1 ∧ g 7 = nI σ.2.2.1.2 ∧ σ.2.2.1.2 ≤ 64
def lsO (σ F : aPic) (c : Nat) : Prop := F.1 = (σ.1.1, σ.1.2.1, c, σ.1.2.2.2) ∧ (σ.1.2.2.2 = 0 → ∀ j, F.2.1 j = σ.2.1 j / nI (stp σ.1.2.2.1 c)) ∧ (¬ σ.1.2.2.2 = 0 → F.2.1 = σ.2.1) ∧ F.2.2 = σ.2.2
theorem dvS {f g : Nat → Int32} {k : Nat} {d : Int32} (hk : k < 144) (h : ∀ j, j < 144 → f (4 * j) = if j < k then g (4 * j) / d else g (4 * j)) : ∀ j, j < 144 → upd f (4 * k) (f (4 * k) / d) (4 * j) = if j < k + 1 then g (4 * j) / d else g (4 * j) := fun j hj => by
  by_cases e : j = k
  · subst e
    rw [pk_us, if_pos (by omega), h j hj, if_neg (Nat.lt_irrefl j)]
  · rw [pk_un (by omega), h j hj]
    by_cases e2 : j < k
    · rw [if_pos e2, if_pos (by omega)]
    · rw [if_neg e2, if_neg (by omega)]
theorem all12 {w hh : Nat} (hw : w ≤ 12) {R : Nat → Prop} : (∀ j, j < 12 * hh → (w ≤ j % 12 ∨ R j)) ↔ ∀ y, y < hh → ∀ x, x < w → R (y * 12 + x) := by
  constructor
  · intro h y hy x hx
    rcases h (y * 12 + x) (by omega) with q | q
    · omega
    · exact q
  · intro h j hj
    by_cases e : w ≤ j % 12
    · exact Or.inl e
    · have q := h (j / 12) (by omega) (j % 12) (by omega)
      rw [show j / 12 * 12 + j % 12 = j by omega] at q
      exact Or.inr q
theorem fl_opq {f : Nat → Int32} {σ : aPic} {u : Nat} (hs : SaR f σ.2.1 σ.1) (hw : σ.1.1 ≤ 12) (hu : chN σ.1.2.2.2 = u + 1) : (∀ j, j < 12 * σ.1.2.1 → flP σ.1.1 f u j) ↔ opq σ := by
  refine (all12 hw (R := fun j => f (4 * j + u) = 255)).trans ?_
  have e : ∀ y, y < σ.1.2.1 → ∀ x, x < σ.1.1 → (f (4 * (y * 12 + x) + u) = 255 ↔ opqP σ y x) := fun y hy x hx => by
    unfold opqP
    rw [hu, Nat.add_sub_cancel, Nat.mul_comm 4, hs x hx y hy u (by omega)]
  exact ⟨fun h y hy x hx => (e y hy x hx).mp (h y hy x hx), fun h y hy x hx => (e y hy x hx).mpr (h y hy x hx)⟩
theorem gy_gry {f : Nat → Int32} {σ : aPic} (hs : SaR f σ.2.1 σ.1) (hw : σ.1.1 ≤ 12) (hu : chN σ.1.2.2.2 = 3) : (∀ j, j < 12 * σ.1.2.1 → gyP σ.1.1 f j) ↔ gry σ := by
  refine (all12 hw (R := fun j => f (4 * j) = f (4 * j + 1) ∧ f (4 * j) = f (4 * j + 2))).trans ?_
  have e : ∀ y, y < σ.1.2.1 → ∀ x, x < σ.1.1 → ((f (4 * (y * 12 + x)) = f (4 * (y * 12 + x) + 1) ∧ f (4 * (y * 12 + x)) = f (4 * (y * 12 + x) + 2)) ↔ gryP σ y x) := fun y hy x hx => by
    unfold gryP
    rw [Nat.mul_comm 4, hs x hx y hy 1 (by omega), hs x hx y hy 2 (by omega), show f ((y * 12 + x) * 4) = σ.2.1 ((y * 12 + x) * 4 + 0) from hs x hx y hy 0 (by omega)]
    exact ⟨fun q => ⟨q.1.symm, q.2.symm⟩, fun q => ⟨q.1.symm, q.2.symm⟩⟩
  exact ⟨fun h y hy x hx => (e y hy x hx).mp (h y hy x hx), fun h y hy x hx => (e y hy x hx).mpr (h y hy x hx)⟩
theorem fi_dvs {f : Nat → Int32} {σ : aPic} {c : Nat} (hs : SaR f σ.2.1 σ.1) (hw : σ.1.1 ≤ 12) : (∀ j, j < 12 * σ.1.2.1 → fiP σ.1.1 f c j) ↔ dvs σ c := by
  refine (all12 hw (R := fun j => f (4 * j) - f (4 * j) / nI c * nI c = 0)).trans ?_
  have e : ∀ y, y < σ.1.2.1 → ∀ x, x < σ.1.1 → ((f (4 * (y * 12 + x)) - f (4 * (y * 12 + x)) / nI c * nI c = 0) ↔ dvsP σ c y x) := fun y hy x hx => by
    unfold dvsP
    rw [Nat.mul_comm 4, show f ((y * 12 + x) * 4) = σ.2.1 ((y * 12 + x) * 4 + 0) from hs x hx y hy 0 (chN_le _).1]
  exact ⟨fun h y hy x hx => (e y hy x hx).mp (h y hy x hx), fun h y hy x hx => (e y hy x hx).mpr (h y hy x hx)⟩
def lsX (σ : aPic) (n c : Nat) : aPic := if σ.1.2.2.2 = 0 then gB σ n c else if σ.1.2.2.2 = 3 then pB σ n c else σ
theorem lsX_end {σ : aPic} {n c : Nat} (h : σ.1.2.2.1 ≤ c) : lsX σ n c = σ := by
  have e1 : gB σ n c = σ := by cases n with
    | zero => rfl
    | succ n => rw [gB, if_pos h]
  have e2 : pB σ n c = σ := by cases n with
    | zero => rfl
    | succ n => rw [pB, if_pos h]
  unfold lsX
  rw [e1, e2]
  split
  · rfl
  · split <;> rfl
theorem i32_d1 (x : Int32) : x / 1 = x := by
  apply Int32.toInt_inj.mp
  simp
theorem lsO_self {σ : aPic} (hb : 1 ≤ σ.1.2.2.1 ∧ σ.1.2.2.1 ≤ 8) : lsO σ σ σ.1.2.2.1 := ⟨rfl, fun _ j => by
  have e : stp σ.1.2.2.1 σ.1.2.2.1 = 1 := Nat.div_self (p2_b hb.1 hb.2).1
  rw [e]
  exact (i32_d1 _).symm, fun _ => rfl, rfl⟩
theorem SaR.le {f s : Nat → Int32} {d d' : Nat × Nat × Nat × Nat} (h : SaR f s d) (h1 : d'.1 ≤ d.1) (h2 : d'.2.1 ≤ d.2.1) (h3 : chN d'.2.2.2 ≤ chN d.2.2.2) : SaR f s d' := fun x hx y hy u hu => h x (by omega) y (by omega) u (by omega)
theorem RD.keepC {g : Nat → Int32} {A : Nat → Nat → Int32} {σ : aPic} (hD : RD g A σ) : RD (upd g 5 (nI (lsC σ).1.2.2.2)) A (lsC σ) := by
  unfold lsC
  by_cases e : σ.1.2.2.2 = 2 ∧ gry σ
  · rw [if_pos e]
    exact ⟨⟨hD.1.1, hD.1.2.1, hD.1.2.2.1, rfl⟩, hD.2.1.le (Nat.le_refl _) (Nat.le_refl _) (chN_le _).1, hD.2.2.1.to0 (Or.inr e.1), hD.2.2.2⟩
  · rw [if_neg e]
    exact ⟨⟨hD.1.1, hD.1.2.1, hD.1.2.2.1, rfl⟩, hD.2⟩
theorem RD.keepA {g : Nat → Int32} {A : Nat → Nat → Int32} {σ : aPic} (hD : RD g A σ) : RD (upd g 5 (nI (lsA σ).1.2.2.2)) A (lsA σ) := by
  unfold lsA
  by_cases e : σ.1.2.2.2 = 6 ∧ opq σ
  · rw [if_pos e]
    exact ⟨⟨hD.1.1, hD.1.2.1, hD.1.2.2.1, rfl⟩, hD.2.1.le (Nat.le_refl _) (Nat.le_refl _) (by rw [e.1]; exact (show chN 2 ≤ chN 6 by decide)), hD.2.2.1.to2 e.1, hD.2.2.2⟩
  · rw [if_neg e]
    by_cases e2 : σ.1.2.2.2 = 4 ∧ opq σ
    · rw [if_pos e2]
      exact ⟨⟨hD.1.1, hD.1.2.1, hD.1.2.2.1, rfl⟩, hD.2.1.le (Nat.le_refl _) (Nat.le_refl _) (chN_le _).1, hD.2.2.1.to0 (Or.inl e2.1), hD.2.2.2⟩
    · rw [if_neg e2]
      exact ⟨⟨hD.1.1, hD.1.2.1, hD.1.2.2.1, rfl⟩, hD.2⟩
theorem stp_c {b c : Nat} (hb : 1 ≤ b ∧ b ≤ 8) (hl : c ≤ b) (hc : 1 ≤ c) : 0 < stp b c ∧ stp b c ≤ 255 := by
  have q : ∀ b : Fin 9, ∀ c : Fin 9, c.1 ≤ b.1 → 1 ≤ c.1 → 0 < stp b.1 c.1 ∧ stp b.1 c.1 ≤ 255 := by decide
  exact q ⟨b, by omega⟩ ⟨c, by omega⟩ hl hc
theorem saD {f f0 : Nat → Int32} {σ F : aPic} {c : Nat} (h0 : σ.1.2.2.2 = 0) (hF : F.1 = (σ.1.1, σ.1.2.1, c, σ.1.2.2.2)) (hv : ∀ j, F.2.1 j = σ.2.1 j / nI (stp σ.1.2.2.1 c)) (hs : SaR f0 σ.2.1 σ.1) (ho : okN σ.1) (hf : ∀ j, j < 144 → f (4 * j) = f0 (4 * j) / nI (stp σ.1.2.2.1 c)) : SaR f F.2.1 F.1 := fun x hx y hy u hu => by
  rw [hF] at hx hy hu
  have hw := ho.w
  have h1 : chN σ.1.2.2.2 = 1 := by rw [h0]; rfl
  have hu0 : u = 0 := by have : u < chN σ.1.2.2.2 := hu; omega
  subst hu0
  have hx' : x < σ.1.1 := hx
  have hy' : y < σ.1.2.1 := hy
  have e := hf (y * 12 + x) (by omega)
  rw [Nat.mul_comm 4] at e
  show f ((y * 12 + x) * 4) = F.2.1 ((y * 12 + x) * 4)
  rw [e, hv]
  exact congrArg (· / _) (hs x hx y hy 0 (by omega))
theorem saE {f : Nat → Int32} {σ F : aPic} {c : Nat} (hF : F.1 = (σ.1.1, σ.1.2.1, c, σ.1.2.2.2)) (hv : F.2.1 = σ.2.1) (hs : SaR f σ.2.1 σ.1) : SaR f F.2.1 F.1 := fun x hx y hy u hu => by
  rw [hF] at hx hy hu
  rw [hv]
  exact hs x hx y hy u hu
theorem RfA.g5 {h : pmH} {m : Nat} {g : Nat → Int32} {A : Nat → Nat → Int32} {v w : Int32} (e : g 5 = w) (hR : RfA h m (upd g 4 v) A) : RfA h m (upd (upd g 5 w) 4 v) A := by
  subst e
  exact hR
theorem gB3 {π : aPic} : ∀ n c, (gB π n c).1.1 = π.1.1 ∧ (gB π n c).1.2.1 = π.1.2.1 ∧ (gB π n c).2.2 = π.2.2 := by
  intro n
  induction n with
  | zero => intro c; exact ⟨rfl, rfl, rfl⟩
  | succ n ih =>
    intro c
    rw [gB]
    split
    · exact ⟨rfl, rfl, rfl⟩
    · split
      · exact ⟨rfl, rfl, rfl⟩
      · exact ih _
theorem pB3 {π : aPic} : ∀ n c, (pB π n c).1.1 = π.1.1 ∧ (pB π n c).1.2.1 = π.1.2.1 ∧ (pB π n c).2.2 = π.2.2 := by
  intro n
  induction n with
  | zero => intro c; exact ⟨rfl, rfl, rfl⟩
  | succ n ih =>
    intro c
    rw [pB]
    split
    · exact ⟨rfl, rfl, rfl⟩
    · split
      · exact ⟨rfl, rfl, rfl⟩
      · exact ih _
theorem lsM3 (π : aPic) : (lsM π).1.1 = π.1.1 ∧ (lsM π).1.2.1 = π.1.2.1 ∧ (lsM π).2.2 = π.2.2 := by
  unfold lsM
  split
  · exact gB3 _ _
  · split
    · exact pB3 _ _
    · exact ⟨rfl, rfl, rfl⟩
theorem lsC3 (π : aPic) : (lsC π).1.1 = π.1.1 ∧ (lsC π).1.2.1 = π.1.2.1 ∧ (lsC π).2.2 = π.2.2 := by
  unfold lsC
  split <;> exact ⟨rfl, rfl, rfl⟩
theorem lsA3 (π : aPic) : (lsA π).1.1 = π.1.1 ∧ (lsA π).1.2.1 = π.1.2.1 ∧ (lsA π).2.2 = π.2.2 := by
  unfold lsA
  split
  · exact ⟨rfl, rfl, rfl⟩
  · split <;> exact ⟨rfl, rfl, rfl⟩
theorem ls3 (π : aPic) : (lsM (lsC (lsA π))).1.1 = π.1.1 ∧ (lsM (lsC (lsA π))).1.2.1 = π.1.2.1 ∧ (lsM (lsC (lsA π))).2.2 = π.2.2 := by
  have h1 := lsM3 (lsC (lsA π))
  have h2 := lsC3 (lsA π)
  have h3 := lsA3 π
  exact ⟨h1.1.trans (h2.1.trans h3.1), h1.2.1.trans (h2.2.1.trans h3.2.1), h1.2.2.trans (h2.2.2.trans h3.2.2)⟩
theorem gB_ok {π : aPic} (ho : okN π.1) (hk : π.1.2.2.2 = 0) : ∀ n c, (c = 1 ∨ c = 2 ∨ c = 4 ∨ c = 8) → okN (gB π n c).1 := by
  intro n
  induction n with
  | zero => intro c _; exact ho
  | succ n ih =>
    intro c hc
    rw [gB]
    split
    · exact ho
    · rename_i h1
      split
      · exact ho.toB hk hc
      · exact ih _ (by have := ho.bb; omega)
theorem pB_ok {π : aPic} (ho : okN π.1) (hk : π.1.2.2.2 = 3) : ∀ n c, (c = 1 ∨ c = 2 ∨ c = 4 ∨ c = 8) → okN (pB π n c).1 := by
  intro n
  induction n with
  | zero => intro c _; exact ho
  | succ n ih =>
    intro c hc
    rw [pB]
    split
    · exact ho
    · rename_i h1
      split
      · exact ho.toP hk hc
      · exact ih _ (by have := ho.bb; omega)
theorem lsM_ok {π : aPic} (ho : okN π.1) : okN (lsM π).1 := by
  unfold lsM
  split
  · exact gB_ok ho (by assumption) _ _ (Or.inl rfl)
  · split
    · exact pB_ok ho (by assumption) _ _ (Or.inl rfl)
    · exact ho
theorem rd_okF {g : Nat → Int32} {A : Nat → Nat → Int32} {σ : aPic} (hD : RD g A σ) : okN (lsM (lsC (lsA σ))).1 := lsM_ok hD.keepA.keepC.2.2.1
theorem RO_of {g : Nat → Int32} {A : Nat → Nat → Int32} {t : Bool} {π F : aPic} {f : Nat → Int32} {c : Int32} (ho : RO g A t π) (hd : g 2 = nI π.1.1 ∧ g 3 = nI π.1.2.1 ∧ g 4 = nI π.1.2.2.1 ∧ g 5 = nI π.1.2.2.2) (h3 : F.1.1 = π.1.1 ∧ F.1.2.1 = π.1.2.1 ∧ F.2.2 = π.2.2) (hsa : SaR f F.2.1 F.1) (hE : g 10 = nI π.2.2.2.2.2.2.2 ∧ eAr π.2.2.2.2 (A 3) (A 4) (A 5)) : RO (upd (upd (upd g 0 c) 5 (nI F.1.2.2.2)) 4 (nI F.1.2.2.1)) (uA A 0 f) t F := by
  refine ⟨ho.1, fun q => ⟨⟨hd.1.trans (by rw [h3.1]), hd.2.1.trans (by rw [h3.2.1]), rfl, rfl⟩, hsa, ?_⟩, ?_, ?_⟩
  · rw [h3.2.2]; exact (ho.2.1 q).2.2
  · rw [h3.2.2]; exact ho.2.2.1
  · rw [h3.2.2]; exact hE
theorem RO_sf {g : Nat → Int32} {A : Nat → Nat → Int32} {t : Bool} {π F : aPic} {f fl fs fb : Nat → Int32} {c : Int32} (ho : RO g A t π) (hd : g 2 = nI π.1.1 ∧ g 3 = nI π.1.2.1 ∧ g 4 = nI π.1.2.2.1 ∧ g 5 = nI π.1.2.2.2) (h3 : F.1.1 = π.1.1 ∧ F.1.2.1 = π.1.2.1 ∧ F.2.2 = π.2.2) (hsa : SaR f F.2.1 F.1) (hE : eAr (exSafe F.2.2.2.2.2.2.2 0 0 F.2.2.2.2) fl fs fb) : RO (upd (upd (upd (upd g 0 c) 5 (nI F.1.2.2.2)) 4 (nI F.1.2.2.1)) 10 (nI (exSafe F.2.2.2.2.2.2.2 0 0 F.2.2.2.2).2.2.2)) (uA (uA (uA (uA A 0 f) 3 fl) 4 fs) 5 fb) t (piSafe F) := by
  refine ⟨ho.1, fun q => ⟨⟨hd.1.trans (by rw [← h3.1]; rfl), hd.2.1.trans (by rw [← h3.2.1]; rfl), rfl, rfl⟩, hsa, ?_⟩, ?_, ⟨rfl, hE⟩⟩
  · show Ag 3 (A 2) F.2.2.2.1
    rw [h3.2.2]; exact (ho.2.1 q).2.2
  · show g 7 = nI F.2.2.1.2 ∧ Ag (4 * F.2.2.1.2) (A 1) F.2.2.1.1
    rw [h3.2.2]; exact ho.2.2.1
set_option maxHeartbeats 4000000 in
theorem l_Ref_isFull {E : pmEv} {h : pmH} {z : Option Nat} {m : Nat} {g : Nat → Int32} {A : Nat → Nat → Int32} {w hh : Nat} (hw : g 2 = nI w) (hh3 : g 3 = nI hh) (hw12 : w ≤ 12) (hh12 : hh ≤ 12) {u : Nat} (hu : u < 4) (hR : RfA h m g A) : ∀ (n : Nat) (k : Nat), k + n = 12 * hh → Go E (mRef_isFull, h, 0, 0) 4 [some (.ref m), some (.int (nI u)), some (.int (bI (∀ j, j < k → flP w (A 0) u j))), some (.int (nI (k)))] [] (h, z, false) 0 0 (Ret (some (.int (bI (∀ j, j < 12 * hh → flP w (A 0) u j)))) (h, z, false)) := by
  intro n
  induction n with
  | zero =>
    intro k hk
    refine go_iload_n dRef_isFull_4 rfl ?_
    refine go_bipush (v := 12) dRef_isFull_5 (by decide) ?_
    refine go_aload_n dRef_isFull_7 rfl ?_
    refine go_getf dRef_isFull_8 qf_Ref_74 hR.1 rfl ?_
    refine go_imul dRef_isFull_11 ?_
    refine go_top (y := nI (12 * hh)) (by rw [hh3, show (12 : Int32) = nI 12 from rfl, pk_mul]) ?_
    refine go_icmp_ge (tgt := 58) dRef_isFull_12 (fun c1 => ?_) (fun c1 => ?_)
    · refine go_iload_n dRef_isFull_58 rfl ?_
      refine go_iret dRef_isFull_59 rfl bI_n ?_ (Nat.le_of_ble_eq_true rfl) (Nat.le_of_ble_eq_true rfl)
      obtain rfl : k = 12 * hh := by omega
      exact ret_v
    · exact absurd (nI_le (a := 12 * hh) (b := k) (by omega) (by omega)) c1
  | succ n ih =>
    intro k hk
    refine go_iload_n dRef_isFull_4 rfl ?_
    refine go_bipush (v := 12) dRef_isFull_5 (by decide) ?_
    refine go_aload_n dRef_isFull_7 rfl ?_
    refine go_getf dRef_isFull_8 qf_Ref_74 hR.1 rfl ?_
    refine go_imul dRef_isFull_11 ?_
    refine go_top (y := nI (12 * hh)) (by rw [hh3, show (12 : Int32) = nI 12 from rfl, pk_mul]) ?_
    refine go_icmp_ge (tgt := 58) dRef_isFull_12 (fun c1 => ?_) (fun c1 => ?_)
    · exact absurd c1 (nI_ge (a := k) (b := 12 * hh) (by omega) (by omega))
    · refine go_iload_n dRef_isFull_15 rfl ?_
      refine go_ifeq_b (tgt := 50) dRef_isFull_16 (fun c2 => ?_) (fun c2 => ?_)
      · refine go_iconst (v := 0) dRef_isFull_50 (by decide) ?_
        refine go_istore_n dRef_isFull_51 ?_
        refine go_iinc dRef_isFull_52 rfl (congrArg (_ + ·) lit1) ?_
        refine go_goto (tgt := 4) dRef_isFull_55 ?_
        exact go_at (ih (k + 1) (by omega)) rfl (by rw [bI_f (p := ∀ j, j < k + 1 → flP w (A 0) u j) (fun q => c2 (fun j hj => q j (by omega))), nI_succ k]; rfl) rfl rfl
      · refine go_iload_n dRef_isFull_19 rfl ?_
        refine go_bipush (v := 12) dRef_isFull_20 (by decide) ?_
        refine go_irem dRef_isFull_22 (by decide) ?_
        refine go_top (y := nI (k % 12)) (by exact pk_rem (d := 12) (by omega) (by omega) (by omega)) ?_
        refine go_aload_n dRef_isFull_23 rfl ?_
        refine go_getf dRef_isFull_24 qf_Ref_71 hR.1 rfl ?_
        refine go_top (y := nI w) (by exact hw) ?_
        refine go_icmp_ge (tgt := 46) dRef_isFull_27 (fun c3 => ?_) (fun c3 => ?_)
        · refine go_iconst (v := 1) dRef_isFull_46 (by decide) ?_
          refine go_goto (tgt := 51) dRef_isFull_47 ?_
          refine go_istore_n dRef_isFull_51 ?_
          refine go_iinc dRef_isFull_52 rfl (congrArg (_ + ·) lit1) ?_
          refine go_goto (tgt := 4) dRef_isFull_55 ?_
          exact go_at (ih (k + 1) (by omega)) rfl (by rw [bI_t (p := ∀ j, j < k + 1 → flP w (A 0) u j) (allT c2 (Or.inl ((nI_leI (by omega) (by omega)).mp c3))), nI_succ k]; rfl) rfl rfl
        · refine go_aload_n dRef_isFull_30 rfl ?_
          refine go_getf dRef_isFull_31 qf_Ref_7 hR.1 rfl ?_
          refine go_iconst (v := 4) dRef_isFull_34 (by decide) ?_
          refine go_iload_n dRef_isFull_35 rfl ?_
          refine go_imul dRef_isFull_36 ?_
          refine go_iload_n dRef_isFull_37 rfl ?_
          refine go_iadd dRef_isFull_38 ?_
          refine go_top (y := nI (4 * k + u)) (by rw [show (4 : Int32) = nI 4 from rfl, pk_mul, nI_add]) ?_
          refine go_iald dRef_isFull_39 hR.2.1 (by exact vp_in_nI (by omega) (by omega)) (congrArg _ (nI_clamp (by omega))) ?_
          refine go_sipush (v := 255) dRef_isFull_40 (by decide) ?_
          refine go_icmp_ne (tgt := 50) dRef_isFull_43 (fun c4 => ?_) (fun c4 => ?_)
          · refine go_iconst (v := 0) dRef_isFull_50 (by decide) ?_
            refine go_istore_n dRef_isFull_51 ?_
            refine go_iinc dRef_isFull_52 rfl (congrArg (_ + ·) lit1) ?_
            refine go_goto (tgt := 4) dRef_isFull_55 ?_
            exact go_at (ih (k + 1) (by omega)) rfl (by rw [bI_f (p := ∀ j, j < k + 1 → flP w (A 0) u j) (fun q => (q k (by omega)).elim (fun x => c3 (nI_le x (by omega))) c4), nI_succ k]; rfl) rfl rfl
          · refine go_iconst (v := 1) dRef_isFull_46 (by decide) ?_
            refine go_goto (tgt := 51) dRef_isFull_47 ?_
            refine go_istore_n dRef_isFull_51 ?_
            refine go_iinc dRef_isFull_52 rfl (congrArg (_ + ·) lit1) ?_
            refine go_goto (tgt := 4) dRef_isFull_55 ?_
            exact go_at (ih (k + 1) (by omega)) rfl (by rw [bI_t (p := ∀ j, j < k + 1 → flP w (A 0) u j) (allT c2 (Or.inr c4)), nI_succ k]; rfl) rfl rfl
set_option maxHeartbeats 4000000 in
theorem r_isFull {E : pmEv} {h : pmH} {z : Option Nat} {m : Nat} {g : Nat → Int32} {A : Nat → Nat → Int32} {w hh : Nat} (hw : g 2 = nI w) (hh3 : g 3 = nI hh) (hw12 : w ≤ 12) (hh12 : hh ≤ 12) {u : Nat} (hu : u < 4) (hR : RfA h m g A) : Call E mRef_isFull [.ref m, .int (nI u)] h z 0 0 (Ret (some (.int (bI (∀ j, j < 12 * hh → flP w (A 0) u j)))) (h, z, false)) := by
  refine call_of (L := [some (.ref m), some (.int (nI u)), none, none]) ok_mRef_isFull (Nat.le_of_ble_eq_true rfl) ?_
  refine go_iconst (v := 1) dRef_isFull_0 (by decide) ?_
  refine go_istore_n dRef_isFull_1 ?_
  refine go_iconst (v := 0) dRef_isFull_2 (by decide) ?_
  refine go_istore_n dRef_isFull_3 ?_
  exact go_at (l_Ref_isFull hw hh3 hw12 hh12 hu hR (12 * hh) 0 (by omega)) rfl (by rw [bI_t (p := ∀ j, j < 0 → flP w (A 0) u j) (fun j hj => absurd hj (Nat.not_lt_zero j))]; rfl) rfl rfl
set_option maxHeartbeats 4000000 in
theorem l_Ref_isGrey {E : pmEv} {h : pmH} {z : Option Nat} {m : Nat} {g : Nat → Int32} {A : Nat → Nat → Int32} {w hh : Nat} (hw : g 2 = nI w) (hh3 : g 3 = nI hh) (hw12 : w ≤ 12) (hh12 : hh ≤ 12) (hR : RfA h m g A) : ∀ (n : Nat) (k : Nat), k + n = 12 * hh → Go E (mRef_isGrey, h, 0, 0) 4 [some (.ref m), some (.int (bI (∀ j, j < k → gyP w (A 0) j))), some (.int (nI (k)))] [] (h, z, false) 0 0 (Ret (some (.int (bI (∀ j, j < 12 * hh → gyP w (A 0) j)))) (h, z, false)) := by
  intro n
  induction n with
  | zero =>
    intro k hk
    refine go_iload_n dRef_isGrey_4 rfl ?_
    refine go_bipush (v := 12) dRef_isGrey_5 (by decide) ?_
    refine go_aload_n dRef_isGrey_7 rfl ?_
    refine go_getf dRef_isGrey_8 qf_Ref_74 hR.1 rfl ?_
    refine go_imul dRef_isGrey_11 ?_
    refine go_top (y := nI (12 * hh)) (by rw [hh3, show (12 : Int32) = nI 12 from rfl, pk_mul]) ?_
    refine go_icmp_ge (tgt := 84) dRef_isGrey_12 (fun c1 => ?_) (fun c1 => ?_)
    · refine go_iload_n dRef_isGrey_84 rfl ?_
      refine go_iret dRef_isGrey_85 rfl bI_n ?_ (Nat.le_of_ble_eq_true rfl) (Nat.le_of_ble_eq_true rfl)
      obtain rfl : k = 12 * hh := by omega
      exact ret_v
    · exact absurd (nI_le (a := 12 * hh) (b := k) (by omega) (by omega)) c1
  | succ n ih =>
    intro k hk
    refine go_iload_n dRef_isGrey_4 rfl ?_
    refine go_bipush (v := 12) dRef_isGrey_5 (by decide) ?_
    refine go_aload_n dRef_isGrey_7 rfl ?_
    refine go_getf dRef_isGrey_8 qf_Ref_74 hR.1 rfl ?_
    refine go_imul dRef_isGrey_11 ?_
    refine go_top (y := nI (12 * hh)) (by rw [hh3, show (12 : Int32) = nI 12 from rfl, pk_mul]) ?_
    refine go_icmp_ge (tgt := 84) dRef_isGrey_12 (fun c1 => ?_) (fun c1 => ?_)
    · exact absurd c1 (nI_ge (a := k) (b := 12 * hh) (by omega) (by omega))
    · refine go_iload_n dRef_isGrey_15 rfl ?_
      refine go_ifeq_b (tgt := 76) dRef_isGrey_16 (fun c2 => ?_) (fun c2 => ?_)
      · refine go_iconst (v := 0) dRef_isGrey_76 (by decide) ?_
        refine go_istore_n dRef_isGrey_77 ?_
        refine go_iinc dRef_isGrey_78 rfl (congrArg (_ + ·) lit1) ?_
        refine go_goto (tgt := 4) dRef_isGrey_81 ?_
        exact go_at (ih (k + 1) (by omega)) rfl (by rw [bI_f (p := ∀ j, j < k + 1 → gyP w (A 0) j) (fun q => c2 (fun j hj => q j (by omega))), nI_succ k]; rfl) rfl rfl
      · refine go_iload_n dRef_isGrey_19 rfl ?_
        refine go_bipush (v := 12) dRef_isGrey_20 (by decide) ?_
        refine go_irem dRef_isGrey_22 (by decide) ?_
        refine go_top (y := nI (k % 12)) (by exact pk_rem (d := 12) (by omega) (by omega) (by omega)) ?_
        refine go_aload_n dRef_isGrey_23 rfl ?_
        refine go_getf dRef_isGrey_24 qf_Ref_71 hR.1 rfl ?_
        refine go_top (y := nI w) (by exact hw) ?_
        refine go_icmp_ge (tgt := 72) dRef_isGrey_27 (fun c3 => ?_) (fun c3 => ?_)
        · refine go_iconst (v := 1) dRef_isGrey_72 (by decide) ?_
          refine go_goto (tgt := 77) dRef_isGrey_73 ?_
          refine go_istore_n dRef_isGrey_77 ?_
          refine go_iinc dRef_isGrey_78 rfl (congrArg (_ + ·) lit1) ?_
          refine go_goto (tgt := 4) dRef_isGrey_81 ?_
          exact go_at (ih (k + 1) (by omega)) rfl (by rw [bI_t (p := ∀ j, j < k + 1 → gyP w (A 0) j) (allT c2 (Or.inl ((nI_leI (by omega) (by omega)).mp c3))), nI_succ k]; rfl) rfl rfl
        · refine go_aload_n dRef_isGrey_30 rfl ?_
          refine go_getf dRef_isGrey_31 qf_Ref_7 hR.1 rfl ?_
          refine go_iconst (v := 4) dRef_isGrey_34 (by decide) ?_
          refine go_iload_n dRef_isGrey_35 rfl ?_
          refine go_imul dRef_isGrey_36 ?_
          refine go_top (y := nI (4 * k)) (by rw [show (4 : Int32) = nI 4 from rfl, pk_mul]) ?_
          refine go_iald dRef_isGrey_37 hR.2.1 (by exact vp_in_nI (by omega) (by omega)) (congrArg _ (nI_clamp (by omega))) ?_
          refine go_aload_n dRef_isGrey_38 rfl ?_
          refine go_getf dRef_isGrey_39 qf_Ref_7 hR.1 rfl ?_
          refine go_iconst (v := 4) dRef_isGrey_42 (by decide) ?_
          refine go_iload_n dRef_isGrey_43 rfl ?_
          refine go_imul dRef_isGrey_44 ?_
          refine go_iconst (v := 1) dRef_isGrey_45 (by decide) ?_
          refine go_iadd dRef_isGrey_46 ?_
          refine go_top (y := nI (4 * k + 1)) (by rw [show (4 : Int32) = nI 4 from rfl, pk_mul]; exact nI_a1 _) ?_
          refine go_iald dRef_isGrey_47 hR.2.1 (by exact vp_in_nI (by omega) (by omega)) (congrArg _ (nI_clamp (by omega))) ?_
          refine go_icmp_ne (tgt := 76) dRef_isGrey_48 (fun c4 => ?_) (fun c4 => ?_)
          · refine go_iconst (v := 0) dRef_isGrey_76 (by decide) ?_
            refine go_istore_n dRef_isGrey_77 ?_
            refine go_iinc dRef_isGrey_78 rfl (congrArg (_ + ·) lit1) ?_
            refine go_goto (tgt := 4) dRef_isGrey_81 ?_
            exact go_at (ih (k + 1) (by omega)) rfl (by rw [bI_f (p := ∀ j, j < k + 1 → gyP w (A 0) j) (fun q => (q k (by omega)).elim (fun x => c3 (nI_le x (by omega))) (fun x => c4 x.1)), nI_succ k]; rfl) rfl rfl
          · refine go_aload_n dRef_isGrey_51 rfl ?_
            refine go_getf dRef_isGrey_52 qf_Ref_7 hR.1 rfl ?_
            refine go_iconst (v := 4) dRef_isGrey_55 (by decide) ?_
            refine go_iload_n dRef_isGrey_56 rfl ?_
            refine go_imul dRef_isGrey_57 ?_
            refine go_top (y := nI (4 * k)) (by rw [show (4 : Int32) = nI 4 from rfl, pk_mul]) ?_
            refine go_iald dRef_isGrey_58 hR.2.1 (by exact vp_in_nI (by omega) (by omega)) (congrArg _ (nI_clamp (by omega))) ?_
            refine go_aload_n dRef_isGrey_59 rfl ?_
            refine go_getf dRef_isGrey_60 qf_Ref_7 hR.1 rfl ?_
            refine go_iconst (v := 4) dRef_isGrey_63 (by decide) ?_
            refine go_iload_n dRef_isGrey_64 rfl ?_
            refine go_imul dRef_isGrey_65 ?_
            refine go_iconst (v := 2) dRef_isGrey_66 (by decide) ?_
            refine go_iadd dRef_isGrey_67 ?_
            refine go_top (y := nI (4 * k + 2)) (by rw [show (4 : Int32) = nI 4 from rfl, pk_mul]; exact nI_a2 _) ?_
            refine go_iald dRef_isGrey_68 hR.2.1 (by exact vp_in_nI (by omega) (by omega)) (congrArg _ (nI_clamp (by omega))) ?_
            refine go_icmp_ne (tgt := 76) dRef_isGrey_69 (fun c5 => ?_) (fun c5 => ?_)
            · refine go_iconst (v := 0) dRef_isGrey_76 (by decide) ?_
              refine go_istore_n dRef_isGrey_77 ?_
              refine go_iinc dRef_isGrey_78 rfl (congrArg (_ + ·) lit1) ?_
              refine go_goto (tgt := 4) dRef_isGrey_81 ?_
              exact go_at (ih (k + 1) (by omega)) rfl (by rw [bI_f (p := ∀ j, j < k + 1 → gyP w (A 0) j) (fun q => (q k (by omega)).elim (fun x => c3 (nI_le x (by omega))) (fun x => c5 x.2)), nI_succ k]; rfl) rfl rfl
            · refine go_iconst (v := 1) dRef_isGrey_72 (by decide) ?_
              refine go_goto (tgt := 77) dRef_isGrey_73 ?_
              refine go_istore_n dRef_isGrey_77 ?_
              refine go_iinc dRef_isGrey_78 rfl (congrArg (_ + ·) lit1) ?_
              refine go_goto (tgt := 4) dRef_isGrey_81 ?_
              exact go_at (ih (k + 1) (by omega)) rfl (by rw [bI_t (p := ∀ j, j < k + 1 → gyP w (A 0) j) (allT c2 (Or.inr ⟨c4, c5⟩)), nI_succ k]; rfl) rfl rfl
set_option maxHeartbeats 4000000 in
theorem r_isGrey {E : pmEv} {h : pmH} {z : Option Nat} {m : Nat} {g : Nat → Int32} {A : Nat → Nat → Int32} {w hh : Nat} (hw : g 2 = nI w) (hh3 : g 3 = nI hh) (hw12 : w ≤ 12) (hh12 : hh ≤ 12) (hR : RfA h m g A) : Call E mRef_isGrey [.ref m] h z 0 0 (Ret (some (.int (bI (∀ j, j < 12 * hh → gyP w (A 0) j)))) (h, z, false)) := by
  refine call_of (L := [some (.ref m), none, none]) ok_mRef_isGrey (Nat.le_of_ble_eq_true rfl) ?_
  refine go_iconst (v := 1) dRef_isGrey_0 (by decide) ?_
  refine go_istore_n dRef_isGrey_1 ?_
  refine go_iconst (v := 0) dRef_isGrey_2 (by decide) ?_
  refine go_istore_n dRef_isGrey_3 ?_
  exact go_at (l_Ref_isGrey hw hh3 hw12 hh12 hR (12 * hh) 0 (by omega)) rfl (by rw [bI_t (p := ∀ j, j < 0 → gyP w (A 0) j) (fun j hj => absurd hj (Nat.not_lt_zero j))]; rfl) rfl rfl
set_option maxHeartbeats 4000000 in
theorem l_Ref_fits {E : pmEv} {h : pmH} {z : Option Nat} {m : Nat} {g : Nat → Int32} {A : Nat → Nat → Int32} {w hh : Nat} (hw : g 2 = nI w) (hh3 : g 3 = nI hh) (hw12 : w ≤ 12) (hh12 : hh ≤ 12) {b c : Nat} (hb : g 4 = nI b) (hb8 : 1 ≤ b ∧ b ≤ 8) (hl : c < b) (hc1 : 1 ≤ c) (hR : RfA h m g A) : ∀ (n : Nat) (k : Nat), k + n = 12 * hh → Go E (mRef_fits, h, 0, 0) 18 [some (.ref m), some (.int (nI c)), some (.int (nI (stp b c))), some (.int (bI (∀ j, j < k → fiP w (A 0) (stp b c) j))), some (.int (nI (k)))] [] (h, z, false) 0 0 (Ret (some (.int (bI (∀ j, j < 12 * hh → fiP w (A 0) (stp b c) j)))) (h, z, false)) := by
  intro n
  induction n with
  | zero =>
    intro k hk
    refine go_iload dRef_fits_18 rfl ?_
    refine go_bipush (v := 12) dRef_fits_20 (by decide) ?_
    refine go_aload_n dRef_fits_22 rfl ?_
    refine go_getf dRef_fits_23 qf_Ref_74 hR.1 rfl ?_
    refine go_imul dRef_fits_26 ?_
    refine go_top (y := nI (12 * hh)) (by rw [hh3, show (12 : Int32) = nI 12 from rfl, pk_mul]) ?_
    refine go_icmp_ge (tgt := 72) dRef_fits_27 (fun c1 => ?_) (fun c1 => ?_)
    · refine go_iload_n dRef_fits_72 rfl ?_
      refine go_iret dRef_fits_73 rfl bI_n ?_ (Nat.le_of_ble_eq_true rfl) (Nat.le_of_ble_eq_true rfl)
      obtain rfl : k = 12 * hh := by omega
      exact ret_v
    · exact absurd (nI_le (a := 12 * hh) (b := k) (by omega) (by omega)) c1
  | succ n ih =>
    intro k hk
    refine go_iload dRef_fits_18 rfl ?_
    refine go_bipush (v := 12) dRef_fits_20 (by decide) ?_
    refine go_aload_n dRef_fits_22 rfl ?_
    refine go_getf dRef_fits_23 qf_Ref_74 hR.1 rfl ?_
    refine go_imul dRef_fits_26 ?_
    refine go_top (y := nI (12 * hh)) (by rw [hh3, show (12 : Int32) = nI 12 from rfl, pk_mul]) ?_
    refine go_icmp_ge (tgt := 72) dRef_fits_27 (fun c1 => ?_) (fun c1 => ?_)
    · exact absurd c1 (nI_ge (a := k) (b := 12 * hh) (by omega) (by omega))
    · refine go_iload_n dRef_fits_30 rfl ?_
      refine go_ifeq_b (tgt := 64) dRef_fits_31 (fun c2 => ?_) (fun c2 => ?_)
      · refine go_iconst (v := 0) dRef_fits_64 (by decide) ?_
        refine go_istore_n dRef_fits_65 ?_
        refine go_iinc dRef_fits_66 rfl (congrArg (_ + ·) lit1) ?_
        refine go_goto (tgt := 18) dRef_fits_69 ?_
        exact go_at (ih (k + 1) (by omega)) rfl (by rw [bI_f (p := ∀ j, j < k + 1 → fiP w (A 0) (stp b c) j) (fun q => c2 (fun j hj => q j (by omega))), nI_succ k]; rfl) rfl rfl
      · refine go_iload dRef_fits_34 rfl ?_
        refine go_bipush (v := 12) dRef_fits_36 (by decide) ?_
        refine go_irem dRef_fits_38 (by decide) ?_
        refine go_top (y := nI (k % 12)) (by exact pk_rem (d := 12) (by omega) (by omega) (by omega)) ?_
        refine go_aload_n dRef_fits_39 rfl ?_
        refine go_getf dRef_fits_40 qf_Ref_71 hR.1 rfl ?_
        refine go_top (y := nI w) (by exact hw) ?_
        refine go_icmp_ge (tgt := 60) dRef_fits_43 (fun c3 => ?_) (fun c3 => ?_)
        · refine go_iconst (v := 1) dRef_fits_60 (by decide) ?_
          refine go_goto (tgt := 65) dRef_fits_61 ?_
          refine go_istore_n dRef_fits_65 ?_
          refine go_iinc dRef_fits_66 rfl (congrArg (_ + ·) lit1) ?_
          refine go_goto (tgt := 18) dRef_fits_69 ?_
          exact go_at (ih (k + 1) (by omega)) rfl (by rw [bI_t (p := ∀ j, j < k + 1 → fiP w (A 0) (stp b c) j) (allT c2 (Or.inl ((nI_leI (by omega) (by omega)).mp c3))), nI_succ k]; rfl) rfl rfl
        · refine go_aload_n dRef_fits_46 rfl ?_
          refine go_getf dRef_fits_47 qf_Ref_7 hR.1 rfl ?_
          refine go_iconst (v := 4) dRef_fits_50 (by decide) ?_
          refine go_iload dRef_fits_51 rfl ?_
          refine go_imul dRef_fits_53 ?_
          refine go_top (y := nI (4 * k)) (by rw [show (4 : Int32) = nI 4 from rfl, pk_mul]) ?_
          refine go_iald dRef_fits_54 hR.2.1 (by first | exact vp_in_nI (by omega) (by omega) | exact nI_ne0 (stp_b hb8 hl hc1).1 (by have := (stp_b hb8 hl hc1).2; omega)) (congrArg _ (nI_clamp (by omega))) ?_
          refine go_iload_n dRef_fits_55 rfl ?_
          refine go_irem dRef_fits_56 (by first | exact vp_in_nI (by omega) (by omega) | exact nI_ne0 (stp_b hb8 hl hc1).1 (by have := (stp_b hb8 hl hc1).2; omega)) ?_
          refine go_if_ne (tgt := 64) dRef_fits_57 (fun c4 => ?_) (fun c4 => ?_)
          · refine go_iconst (v := 0) dRef_fits_64 (by decide) ?_
            refine go_istore_n dRef_fits_65 ?_
            refine go_iinc dRef_fits_66 rfl (congrArg (_ + ·) lit1) ?_
            refine go_goto (tgt := 18) dRef_fits_69 ?_
            exact go_at (ih (k + 1) (by omega)) rfl (by rw [bI_f (p := ∀ j, j < k + 1 → fiP w (A 0) (stp b c) j) (fun q => (q k (by omega)).elim (fun x => c3 (nI_le x (by omega))) c4), nI_succ k]; rfl) rfl rfl
          · refine go_iconst (v := 1) dRef_fits_60 (by decide) ?_
            refine go_goto (tgt := 65) dRef_fits_61 ?_
            refine go_istore_n dRef_fits_65 ?_
            refine go_iinc dRef_fits_66 rfl (congrArg (_ + ·) lit1) ?_
            refine go_goto (tgt := 18) dRef_fits_69 ?_
            exact go_at (ih (k + 1) (by omega)) rfl (by rw [bI_t (p := ∀ j, j < k + 1 → fiP w (A 0) (stp b c) j) (allT c2 (Or.inr c4)), nI_succ k]; rfl) rfl rfl
set_option maxHeartbeats 4000000 in
theorem r_fits {E : pmEv} {h : pmH} {z : Option Nat} {m : Nat} {g : Nat → Int32} {A : Nat → Nat → Int32} {w hh : Nat} (hw : g 2 = nI w) (hh3 : g 3 = nI hh) (hw12 : w ≤ 12) (hh12 : hh ≤ 12) {b c : Nat} (hb : g 4 = nI b) (hb8 : 1 ≤ b ∧ b ≤ 8) (hl : c < b) (hc1 : 1 ≤ c) (hR : RfA h m g A) : Call E mRef_fits [.ref m, .int (nI c)] h z 0 0 (Ret (some (.int (bI (∀ j, j < 12 * hh → fiP w (A 0) (stp b c) j)))) (h, z, false)) := by
  refine call_of (L := [some (.ref m), some (.int (nI c)), none, none, none]) ok_mRef_fits (Nat.le_of_ble_eq_true rfl) ?_
  refine go_aload_n dRef_fits_0 rfl ?_
  refine go_getf dRef_fits_1 qf_Ref_77 hR.1 rfl ?_
  refine go_top (y := nI b) (by exact hb) ?_
  refine go_statP dRef_fits_4 ok_mRef_greatest st_mRef_greatest qm_Ref_131 r_greatest ?_ (hnp := np_mRef_greatest)
  refine go_iload_n dRef_fits_7 rfl ?_
  refine go_statP dRef_fits_8 ok_mRef_greatest st_mRef_greatest qm_Ref_131 r_greatest ?_ (hnp := np_mRef_greatest)
  rw [gr_n (n := b) hb8.2, gr_n (n := c) (by omega)]
  refine go_idiv dRef_fits_11 (by exact nI_ne0 (p2_b hc1 (by omega)).1 (Nat.lt_of_le_of_lt (p2_b hc1 (by omega)).2 (by decide))) ?_
  rw [pk_div (Nat.lt_of_le_of_lt (p2_b hb8.1 hb8.2).2 (by decide)) (p2_b hc1 (by omega)).1 (Nat.lt_of_le_of_lt (p2_b hc1 (by omega)).2 (by decide))]
  refine go_istore_n dRef_fits_12 ?_
  refine go_iconst (v := 1) dRef_fits_13 (by decide) ?_
  refine go_istore_n dRef_fits_14 ?_
  refine go_iconst (v := 0) dRef_fits_15 (by decide) ?_
  refine go_istore dRef_fits_16 ?_
  exact go_at (l_Ref_fits hw hh3 hw12 hh12 hb hb8 hl hc1 hR (12 * hh) 0 (by omega)) rfl (by rw [bI_t (p := ∀ j, j < 0 → fiP w (A 0) (stp b c) j) (fun j hj => absurd hj (Nat.not_lt_zero j))]; rfl) rfl rfl
set_option maxHeartbeats 4000000 in
theorem l_Ref_lessen_d {E : pmEv} {h0 : pmH} {z : Option Nat} {m : Nat} {g : Nat → Int32} {A : Nat → Nat → Int32} {σ : aPic} {c : Nat} {Q : pmA → pmS → Prop} (h0k : g 5 = 0) (hz : ¬ nI (stp σ.1.2.2.1 c) = 0) : ∀ (n : Nat) (k : Nat) (f : Nat → Int32) (h : pmH) (d : Bool), k + n = 144 → RfA h m g (uA A 0 f) → (∀ j, j < 144 → f (4 * j) = if j < k then A 0 (4 * j) / nI (stp σ.1.2.2.1 c) else A 0 (4 * j)) → Sm h0 h m 17 → (∀ hx dx f', RfA hx m g (uA A 0 f') → (∀ j, j < 144 → f' (4 * j) = A 0 (4 * j) / nI (stp σ.1.2.2.1 c)) → Sm h0 hx m 17 → Go E (mRef_lessen, h0, 0, 0) 195 [some (.ref m), some (.int (nI c)), some (.int (nI (stp σ.1.2.2.1 c))), some (.int (nI (144)))] [] (hx, z, dx) 0 0 Q) → Go E (mRef_lessen, h0, 0, 0) 157 [some (.ref m), some (.int (nI c)), some (.int (nI (stp σ.1.2.2.1 c))), some (.int (nI (k)))] [] (h, z, d) 0 0 (Q) := by
  intro n
  induction n with
  | zero =>
    intro k f h d hk4 hR hf hs hk
    refine go_iload_n dRef_lessen_157 rfl ?_
    refine go_sipush (v := 144) dRef_lessen_158 (by decide) ?_
    refine go_icmp_ge (tgt := 195) dRef_lessen_161 (fun c1 => ?_) (fun c1 => ?_)
    · obtain rfl : k = 144 := by omega
      exact hk h d f hR (fun j hj => by rw [hf j hj, if_pos hj]) hs
    · exact absurd (nI_le (a := 144) (b := k) (by omega) (by omega)) c1
  | succ n ih =>
    intro k f h d hk4 hR hf hs hk
    refine go_iload_n dRef_lessen_157 rfl ?_
    refine go_sipush (v := 144) dRef_lessen_158 (by decide) ?_
    refine go_icmp_ge (tgt := 195) dRef_lessen_161 (fun c1 => ?_) (fun c1 => ?_)
    · exact absurd c1 (nI_ge (a := k) (b := 144) (by omega) (by omega))
    · refine go_aload_n dRef_lessen_164 rfl ?_
      refine go_getf dRef_lessen_165 qf_Ref_80 hR.1 rfl ?_
      refine go_if_ne (tgt := 195) dRef_lessen_168 (fun c2 => ?_) (fun c2 => ?_)
      · exact absurd h0k c2
      · refine go_aload_n dRef_lessen_171 rfl ?_
        refine go_getf dRef_lessen_172 qf_Ref_7 hR.1 rfl ?_
        refine go_iconst (v := 4) dRef_lessen_175 (by decide) ?_
        refine go_iload_n dRef_lessen_176 rfl ?_
        refine go_imul dRef_lessen_177 ?_
        refine go_top (y := nI (4 * k)) (by rw [show (4 : Int32) = nI 4 from rfl, pk_mul]) ?_
        refine go_aload_n dRef_lessen_178 rfl ?_
        refine go_getf dRef_lessen_179 qf_Ref_7 hR.1 rfl ?_
        refine go_iconst (v := 4) dRef_lessen_182 (by decide) ?_
        refine go_iload_n dRef_lessen_183 rfl ?_
        refine go_imul dRef_lessen_184 ?_
        refine go_top (y := nI (4 * k)) (by rw [show (4 : Int32) = nI 4 from rfl, pk_mul]) ?_
        refine go_iald dRef_lessen_185 hR.2.1 (by first | exact vp_in_nI (by omega) (by omega) | exact hz) (congrArg _ (nI_clamp (by omega))) ?_
        refine go_iload_n dRef_lessen_186 rfl ?_
        refine go_idiv dRef_lessen_187 (by first | exact vp_in_nI (by omega) (by omega) | exact hz) ?_
        refine go_iast dRef_lessen_188 hR.2.1 (by first | exact vp_in_nI (by omega) (by omega) | exact hz) (nI_clamp (by omega)) ?_
        refine go_iinc dRef_lessen_189 rfl (congrArg (_ + ·) lit1) ?_
        refine go_goto (tgt := 157) dRef_lessen_192 ?_
        refine go_nm (fun hnk1 enk1 => ?_)
        have gsk1 : Sm h hnk1 m 17 := by rw [enk1]; exact (Sm.put' (Sm.refl _ _ _) _ (by omega) (by omega))
        have hRk1 : RfA hnk1 m (g) ((uA A 0 (upd f (4 * k) (f (4 * k) / nI (stp σ.1.2.2.1 c))))) := ⟨(congrFun enk1 m).trans ((pmU_n _ _ (by omega)).trans hR.1), (congrFun enk1 (m + 1)).trans (pmU_s _ _ _), (congrFun enk1 (m + 2)).trans ((pmU_n _ _ (by omega)).trans hR.2.2.1), (congrFun enk1 (m + 3)).trans ((pmU_n _ _ (by omega)).trans hR.2.2.2.1), (congrFun enk1 (m + 4)).trans ((pmU_n _ _ (by omega)).trans hR.2.2.2.2.1), (congrFun enk1 (m + 5)).trans ((pmU_n _ _ (by omega)).trans hR.2.2.2.2.2.1), (congrFun enk1 (m + 6)).trans ((pmU_n _ _ (by omega)).trans hR.2.2.2.2.2.2.1), (congrFun enk1 (m + 7)).trans ((pmU_n _ _ (by omega)).trans hR.2.2.2.2.2.2.2.1), (congrFun enk1 (m + 8)).trans ((pmU_n _ _ (by omega)).trans hR.2.2.2.2.2.2.2.2.1), (congrFun enk1 (m + 9)).trans ((pmU_n _ _ (by omega)).trans hR.2.2.2.2.2.2.2.2.2.1), (congrFun enk1 (m + 10)).trans ((pmU_n _ _ (by omega)).trans hR.2.2.2.2.2.2.2.2.2.2.1), (congrFun enk1 (m + 11)).trans ((pmU_n _ _ (by omega)).trans hR.2.2.2.2.2.2.2.2.2.2.2.1), (congrFun enk1 (m + 12)).trans ((pmU_n _ _ (by omega)).trans hR.2.2.2.2.2.2.2.2.2.2.2.2.1), (congrFun enk1 (m + 13)).trans ((pmU_n _ _ (by omega)).trans hR.2.2.2.2.2.2.2.2.2.2.2.2.2.1), (congrFun enk1 (m + 14)).trans ((pmU_n _ _ (by omega)).trans hR.2.2.2.2.2.2.2.2.2.2.2.2.2.2.1), (congrFun enk1 (m + 15)).trans ((pmU_n _ _ (by omega)).trans hR.2.2.2.2.2.2.2.2.2.2.2.2.2.2.2.1), (congrFun enk1 (m + 16)).trans ((pmU_n _ _ (by omega)).trans hR.2.2.2.2.2.2.2.2.2.2.2.2.2.2.2.2)⟩
        have sk1 := hs.trans gsk1
        exact go_at (ih (k + 1) _ _ _ (by omega) hRk1 (dvS (by omega) hf) sk1 hk) rfl (by rw [nI_succ k]; rfl) rfl rfl
set_option maxHeartbeats 4000000 in
theorem l_Ref_lessen_e {E : pmEv} {h0 h : pmH} {z : Option Nat} {d : Bool} {m : Nat} {g : Nat → Int32} {A : Nat → Nat → Int32} {σ F : aPic} {c : Nat} (hD : RD g A σ) (hc : c = 1 ∨ c = 2 ∨ c = 4 ∨ c = 8) (hcb : c ≤ σ.1.2.2.1) (hF : lsO σ F c) (hR : RfA h m g A) (hs : Sm h0 h m 17) : Go E (mRef_lessen, h0, 0, 0) 142 [some (.ref m), some (.int (nI c)), none, none] [] (h, z, d) 0 0 (RetX none (fun h' => (∃ f, RfA h' m (upd (upd g 5 (nI F.1.2.2.2)) 4 (nI F.1.2.2.1)) (uA A 0 f) ∧ SaR f F.2.1 F.1) ∧ Sm h0 h' m 17) z) := by
  have hb8 := hD.2.2.1.b
  have hz : ¬ nI (stp σ.1.2.2.1 c) = 0 := nI_ne0 (stp_c hb8 hcb (by omega)).1 (by have := (stp_c hb8 hcb (by omega)).2; omega)
  refine go_aload_n dRef_lessen_142 rfl ?_
  refine go_getf dRef_lessen_143 qf_Ref_77 hR.1 rfl ?_
  refine go_top (y := nI σ.1.2.2.1) (by exact hD.1.2.2.1) ?_
  refine go_statP dRef_lessen_146 ok_mRef_greatest st_mRef_greatest qm_Ref_131 r_greatest ?_ (hnp := np_mRef_greatest)
  refine go_iload_n dRef_lessen_149 rfl ?_
  refine go_statP dRef_lessen_150 ok_mRef_greatest st_mRef_greatest qm_Ref_131 r_greatest ?_ (hnp := np_mRef_greatest)
  rw [gr_n (n := σ.1.2.2.1) hb8.2, gr_n (n := c) (by omega)]
  refine go_idiv dRef_lessen_153 (by exact nI_ne0 (p2_b (by omega) (by omega)).1 (Nat.lt_of_le_of_lt (p2_b (b := c) (by omega) (by omega)).2 (by decide))) ?_
  rw [pk_div (Nat.lt_of_le_of_lt (p2_b hb8.1 hb8.2).2 (by decide)) (p2_b (b := c) (by omega) (by omega)).1 (Nat.lt_of_le_of_lt (p2_b (b := c) (by omega) (by omega)).2 (by decide))]
  refine go_istore_n dRef_lessen_154 ?_
  refine go_iconst (v := 0) dRef_lessen_155 (by decide) ?_
  refine go_istore_n dRef_lessen_156 ?_
  by_cases h0k : σ.1.2.2.2 = 0
  · have g5 : g 5 = 0 := by rw [hD.1.2.2.2, h0k]; rfl
    refine l_Ref_lessen_d (g := g) (σ := σ) (c := c) g5 hz 144 0 (A 0) h _ (by omega) hR (fun j hj => by rw [if_neg (Nat.not_lt_zero j)]) hs (fun hx2 dx2 f2 hR2 e2 hs2 => ?_)
    refine go_aload_n dRef_lessen_195 rfl ?_
    refine go_iload_n dRef_lessen_196 rfl ?_
    refine go_putf dRef_lessen_197 qf_Ref_77 pw_8_4 hR2.1 rfl rfl ?_
    refine go_nm (fun hnk1 enk1 => ?_)
    have gsk1 : Sm hx2 hnk1 m 17 := by rw [enk1]; exact (Sm.put' (Sm.refl _ _ _) _ (by omega) (by omega))
    have hRk1 : RfA hnk1 m (upd g 4 (nI c)) (uA A 0 f2) := ⟨(congrFun enk1 m).trans (pmU_s _ _ _), (congrFun enk1 (m + 1)).trans ((pmU_n _ _ (by omega)).trans hR2.2.1), (congrFun enk1 (m + 2)).trans ((pmU_n _ _ (by omega)).trans hR2.2.2.1), (congrFun enk1 (m + 3)).trans ((pmU_n _ _ (by omega)).trans hR2.2.2.2.1), (congrFun enk1 (m + 4)).trans ((pmU_n _ _ (by omega)).trans hR2.2.2.2.2.1), (congrFun enk1 (m + 5)).trans ((pmU_n _ _ (by omega)).trans hR2.2.2.2.2.2.1), (congrFun enk1 (m + 6)).trans ((pmU_n _ _ (by omega)).trans hR2.2.2.2.2.2.2.1), (congrFun enk1 (m + 7)).trans ((pmU_n _ _ (by omega)).trans hR2.2.2.2.2.2.2.2.1), (congrFun enk1 (m + 8)).trans ((pmU_n _ _ (by omega)).trans hR2.2.2.2.2.2.2.2.2.1), (congrFun enk1 (m + 9)).trans ((pmU_n _ _ (by omega)).trans hR2.2.2.2.2.2.2.2.2.2.1), (congrFun enk1 (m + 10)).trans ((pmU_n _ _ (by omega)).trans hR2.2.2.2.2.2.2.2.2.2.2.1), (congrFun enk1 (m + 11)).trans ((pmU_n _ _ (by omega)).trans hR2.2.2.2.2.2.2.2.2.2.2.2.1), (congrFun enk1 (m + 12)).trans ((pmU_n _ _ (by omega)).trans hR2.2.2.2.2.2.2.2.2.2.2.2.2.1), (congrFun enk1 (m + 13)).trans ((pmU_n _ _ (by omega)).trans hR2.2.2.2.2.2.2.2.2.2.2.2.2.2.1), (congrFun enk1 (m + 14)).trans ((pmU_n _ _ (by omega)).trans hR2.2.2.2.2.2.2.2.2.2.2.2.2.2.2.1), (congrFun enk1 (m + 15)).trans ((pmU_n _ _ (by omega)).trans hR2.2.2.2.2.2.2.2.2.2.2.2.2.2.2.2.1), (congrFun enk1 (m + 16)).trans ((pmU_n _ _ (by omega)).trans hR2.2.2.2.2.2.2.2.2.2.2.2.2.2.2.2.2)⟩
    have sk1 := hs2.trans gsk1
    refine go_vret dRef_lessen_200 rfl ?_ (Nat.le_of_ble_eq_true rfl) (Nat.le_of_ble_eq_true rfl)
    exact retX ⟨⟨f2, by rw [show F.1.2.2.2 = σ.1.2.2.2 by rw [hF.1], show F.1.2.2.1 = c by rw [hF.1]]; exact RfA.g5 hD.1.2.2.2 hRk1, (saD h0k hF.1 (hF.2.1 h0k) hD.2.1 hD.2.2.1 e2)⟩, sk1⟩
  · refine go_iload_n dRef_lessen_157 rfl ?_
    refine go_sipush (v := 144) dRef_lessen_158 (by decide) ?_
    refine go_icmp_ge (tgt := 195) dRef_lessen_161 (fun c1 => absurd c1 (by decide)) (fun c1 => ?_)
    refine go_aload_n dRef_lessen_164 rfl ?_
    refine go_getf dRef_lessen_165 qf_Ref_80 hR.1 rfl ?_
    refine go_if_ne (tgt := 195) dRef_lessen_168 (fun c2 => ?_) (fun c2 => absurd ((nI_inj (b := 0) (by have := hD.2.2.1.k; omega) (by omega)).mp (hD.1.2.2.2.symm.trans c2)) h0k)
    refine go_aload_n dRef_lessen_195 rfl ?_
    refine go_iload_n dRef_lessen_196 rfl ?_
    refine go_putf dRef_lessen_197 qf_Ref_77 pw_8_4 hR.1 rfl rfl ?_
    refine go_nm (fun hnk1 enk1 => ?_)
    have gsk1 : Sm h hnk1 m 17 := by rw [enk1]; exact (Sm.put' (Sm.refl _ _ _) _ (by omega) (by omega))
    have hRk1 : RfA hnk1 m (upd g 4 (nI c)) (uA A 0 (A 0)) := ⟨(congrFun enk1 m).trans (pmU_s _ _ _), (congrFun enk1 (m + 1)).trans ((pmU_n _ _ (by omega)).trans hR.2.1), (congrFun enk1 (m + 2)).trans ((pmU_n _ _ (by omega)).trans hR.2.2.1), (congrFun enk1 (m + 3)).trans ((pmU_n _ _ (by omega)).trans hR.2.2.2.1), (congrFun enk1 (m + 4)).trans ((pmU_n _ _ (by omega)).trans hR.2.2.2.2.1), (congrFun enk1 (m + 5)).trans ((pmU_n _ _ (by omega)).trans hR.2.2.2.2.2.1), (congrFun enk1 (m + 6)).trans ((pmU_n _ _ (by omega)).trans hR.2.2.2.2.2.2.1), (congrFun enk1 (m + 7)).trans ((pmU_n _ _ (by omega)).trans hR.2.2.2.2.2.2.2.1), (congrFun enk1 (m + 8)).trans ((pmU_n _ _ (by omega)).trans hR.2.2.2.2.2.2.2.2.1), (congrFun enk1 (m + 9)).trans ((pmU_n _ _ (by omega)).trans hR.2.2.2.2.2.2.2.2.2.1), (congrFun enk1 (m + 10)).trans ((pmU_n _ _ (by omega)).trans hR.2.2.2.2.2.2.2.2.2.2.1), (congrFun enk1 (m + 11)).trans ((pmU_n _ _ (by omega)).trans hR.2.2.2.2.2.2.2.2.2.2.2.1), (congrFun enk1 (m + 12)).trans ((pmU_n _ _ (by omega)).trans hR.2.2.2.2.2.2.2.2.2.2.2.2.1), (congrFun enk1 (m + 13)).trans ((pmU_n _ _ (by omega)).trans hR.2.2.2.2.2.2.2.2.2.2.2.2.2.1), (congrFun enk1 (m + 14)).trans ((pmU_n _ _ (by omega)).trans hR.2.2.2.2.2.2.2.2.2.2.2.2.2.2.1), (congrFun enk1 (m + 15)).trans ((pmU_n _ _ (by omega)).trans hR.2.2.2.2.2.2.2.2.2.2.2.2.2.2.2.1), (congrFun enk1 (m + 16)).trans ((pmU_n _ _ (by omega)).trans hR.2.2.2.2.2.2.2.2.2.2.2.2.2.2.2.2)⟩
    have sk1 := hs.trans gsk1
    refine go_vret dRef_lessen_200 rfl ?_ (Nat.le_of_ble_eq_true rfl) (Nat.le_of_ble_eq_true rfl)
    exact retX ⟨⟨(A 0), by rw [show F.1.2.2.2 = σ.1.2.2.2 by rw [hF.1], show F.1.2.2.1 = c by rw [hF.1]]; exact RfA.g5 hD.1.2.2.2 hRk1, (saE hF.1 (hF.2.2.1 h0k) hD.2.1)⟩, sk1⟩
set_option maxHeartbeats 4000000 in
theorem l_Ref_lessen_b {E : pmEv} {h0 : pmH} {z : Option Nat} {m : Nat} {g : Nat → Int32} {A : Nat → Nat → Int32} {σ F : aPic} (hD : RD g A σ) : ∀ (n : Nat) (c : Nat) (h : pmH) (d : Bool), c = 1 ∨ c = 2 ∨ c = 4 ∨ c = 8 → c ≤ σ.1.2.2.1 → σ.1.2.2.1 ≤ c * 2 ^ n → RfA h m g A → Sm h0 h m 17 → F = lsX σ n c → Go E (mRef_lessen, h0, 0, 0) 78 [some (.ref m), some (.int (nI c)), none, none] [] (h, z, d) 0 0 (RetX none (fun h' => (∃ f, RfA h' m (upd (upd g 5 (nI F.1.2.2.2)) 4 (nI F.1.2.2.1)) (uA A 0 f) ∧ SaR f F.2.1 F.1) ∧ Sm h0 h' m 17) z) := by
  intro n
  induction n with
  | zero =>
    intro c h d hc hcb hn hR hs hF
    have hb8 := hD.2.2.1.b
    have hkk := hD.2.2.1.k
    have hwh := hD.2.2.1.w
    have hbb := hD.2.2.1.bb
    have hc64 := hD.2.2.2.2
    refine go_iload_n dRef_lessen_78 rfl ?_
    refine go_aload_n dRef_lessen_79 rfl ?_
    refine go_getf dRef_lessen_80 qf_Ref_77 hR.1 rfl ?_
    refine go_top (y := nI σ.1.2.2.1) (by exact hD.1.2.2.1) ?_
    refine go_icmp_ge (tgt := 142) dRef_lessen_83 (fun c1 => ?_) (fun c1 => ?_)
    · obtain rfl : c = σ.1.2.2.1 := Nat.le_antisymm hcb ((nI_leI (by omega) (by omega)).mp c1)
      exact l_Ref_lessen_e hD hc hcb (by rw [hF, lsX_end (Nat.le_refl _)]; exact lsO_self hD.2.2.1.b) hR hs
    · exact absurd (nI_le (a := σ.1.2.2.1) (b := c) (by omega) (by omega)) c1
  | succ n ih =>
    intro c h d hc hcb hn hR hs hF
    have hb8 := hD.2.2.1.b
    have hkk := hD.2.2.1.k
    have hwh := hD.2.2.1.w
    have hbb := hD.2.2.1.bb
    have hc64 := hD.2.2.2.2
    refine go_iload_n dRef_lessen_78 rfl ?_
    refine go_aload_n dRef_lessen_79 rfl ?_
    refine go_getf dRef_lessen_80 qf_Ref_77 hR.1 rfl ?_
    refine go_top (y := nI σ.1.2.2.1) (by exact hD.1.2.2.1) ?_
    refine go_icmp_ge (tgt := 142) dRef_lessen_83 (fun c1 => ?_) (fun c1 => ?_)
    · obtain rfl : c = σ.1.2.2.1 := Nat.le_antisymm hcb ((nI_leI (by omega) (by omega)).mp c1)
      exact l_Ref_lessen_e hD hc hcb (by rw [hF, lsX_end (Nat.le_refl _)]; exact lsO_self hD.2.2.1.b) hR hs
    · have hl : c < σ.1.2.2.1 := Nat.not_le.mp fun q => c1 (nI_le q (by omega))
      have hfd := fi_dvs (c := stp σ.1.2.2.1 c) hD.2.1 hwh.1
      refine go_aload_n dRef_lessen_86 rfl ?_
      refine go_getf dRef_lessen_87 qf_Ref_80 hR.1 rfl ?_
      refine go_top (y := nI σ.1.2.2.2) (by exact hD.1.2.2.2) ?_
      refine go_if_ne (tgt := 101) dRef_lessen_90 (fun c2 => ?_) (fun c2 => ?_)
      · refine go_aload_n dRef_lessen_101 rfl ?_
        refine go_getf dRef_lessen_102 qf_Ref_80 hR.1 rfl ?_
        refine go_top (y := nI σ.1.2.2.2) (by exact hD.1.2.2.2) ?_
        refine go_iconst (v := 3) dRef_lessen_105 (by decide) ?_
        refine go_icmp_ne (tgt := 120) dRef_lessen_106 (fun c3 => ?_) (fun c3 => ?_)
        · refine go_aload_n dRef_lessen_120 rfl ?_
          refine go_getf dRef_lessen_121 qf_Ref_80 hR.1 rfl ?_
          refine go_top (y := nI σ.1.2.2.2) (by exact hD.1.2.2.2) ?_
          refine go_if_eq (tgt := 142) dRef_lessen_124 (fun c4 => ?_) (fun c4 => ?_)
          · exact absurd c4 c2
          · refine go_aload_n dRef_lessen_127 rfl ?_
            refine go_getf dRef_lessen_128 qf_Ref_80 hR.1 rfl ?_
            refine go_top (y := nI σ.1.2.2.2) (by exact hD.1.2.2.2) ?_
            refine go_iconst (v := 3) dRef_lessen_131 (by decide) ?_
            refine go_icmp_eq (tgt := 142) dRef_lessen_132 (fun c5 => ?_) (fun c5 => ?_)
            · exact absurd c5 c3
            · refine go_iconst (v := 2) dRef_lessen_135 (by decide) ?_
              refine go_iload_n dRef_lessen_136 rfl ?_
              refine go_imul dRef_lessen_137 ?_
              refine go_istore_n dRef_lessen_138 ?_
              refine go_goto (tgt := 78) dRef_lessen_139 ?_
              exact go_at (ih (2 * c) h d (by omega) (by omega) (by rw [Nat.pow_succ] at hn; rw [Nat.mul_comm 2 c, Nat.mul_assoc, Nat.mul_comm 2]; exact hn) hR hs (by rw [hF, lsX, if_neg (fun q => c2 (by rw [q]; rfl)), if_neg (fun q => c3 (by rw [q]; rfl)), lsX, if_neg (fun q => c2 (by rw [q]; rfl)), if_neg (fun q => c3 (by rw [q]; rfl))])) rfl (by rw [← pk_mul 2 c]; rfl) rfl rfl
        · refine go_aload_n dRef_lessen_109 rfl ?_
          refine go_getf dRef_lessen_110 qf_Ref_83 hR.1 rfl ?_
          refine go_iload_n dRef_lessen_113 rfl ?_
          refine go_statP dRef_lessen_114 ok_mRef_mostEntries st_mRef_mostEntries qm_Ref_93 (r_mostEntries hc) ?_ (hnp := np_mRef_mostEntries)
          refine go_icmp_gt (tgt := 135) dRef_lessen_117 (fun c4 => ?_) (fun c4 => ?_)
          · refine go_iconst (v := 2) dRef_lessen_135 (by decide) ?_
            refine go_iload_n dRef_lessen_136 rfl ?_
            refine go_imul dRef_lessen_137 ?_
            refine go_istore_n dRef_lessen_138 ?_
            refine go_goto (tgt := 78) dRef_lessen_139 ?_
            exact go_at (ih (2 * c) h d (by omega) (by omega) (by rw [Nat.pow_succ] at hn; rw [Nat.mul_comm 2 c, Nat.mul_assoc, Nat.mul_comm 2]; exact hn) hR hs (by rw [hF, lsX, if_neg (fun q => c2 (by rw [q]; rfl)), if_pos ((nI_inj (b := 3) (by omega) (by omega)).mp c3), pB, if_neg (Nat.not_le.mpr hl), if_neg (fun q => absurd (nI_le q (by omega)) (Int32.not_le.mpr (by rw [← hD.2.2.2.1]; exact c4))), lsX, if_neg (fun q => c2 (by rw [q]; rfl)), if_pos ((nI_inj (b := 3) (by omega) (by omega)).mp c3)])) rfl (by rw [← pk_mul 2 c]; rfl) rfl rfl
          · refine go_aload_n dRef_lessen_120 rfl ?_
            refine go_getf dRef_lessen_121 qf_Ref_80 hR.1 rfl ?_
            refine go_top (y := nI σ.1.2.2.2) (by exact hD.1.2.2.2) ?_
            refine go_if_eq (tgt := 142) dRef_lessen_124 (fun c5 => ?_) (fun c5 => ?_)
            · exact absurd c5 c2
            · refine go_aload_n dRef_lessen_127 rfl ?_
              refine go_getf dRef_lessen_128 qf_Ref_80 hR.1 rfl ?_
              refine go_top (y := nI σ.1.2.2.2) (by exact hD.1.2.2.2) ?_
              refine go_iconst (v := 3) dRef_lessen_131 (by decide) ?_
              refine go_icmp_eq (tgt := 142) dRef_lessen_132 (fun c6 => ?_) (fun c6 => ?_)
              · exact l_Ref_lessen_e hD hc hcb (by rw [hF, lsX, if_neg (fun q => c2 (by rw [q]; rfl)), if_pos ((nI_inj (b := 3) (by omega) (by omega)).mp c3), pB, if_neg (Nat.not_le.mpr hl), if_pos (Nat.not_lt.mp fun q => c4 (by rw [hD.2.2.2.1]; exact nI_lt q (by omega)))]; exact ⟨by rw [(nI_inj (b := 3) (by omega) (by omega)).mp c3], fun q => absurd q (by rw [(nI_inj (b := 3) (by omega) (by omega)).mp c3]; decide), fun _ => rfl, rfl⟩) hR hs
              · refine go_iconst (v := 2) dRef_lessen_135 (by decide) ?_
                refine go_iload_n dRef_lessen_136 rfl ?_
                refine go_imul dRef_lessen_137 ?_
                refine go_istore_n dRef_lessen_138 ?_
                refine go_goto (tgt := 78) dRef_lessen_139 ?_
                exact absurd c3 c6
      · refine go_aload_n dRef_lessen_93 rfl ?_
        refine go_iload_n dRef_lessen_94 rfl ?_
        refine go_virtP dRef_lessen_95 ok_mRef_fits im_mRef_fits se_mRef_fits qm_Ref_141 hR.1 (r_fits (w := σ.1.1) (hh := σ.1.2.1) (b := σ.1.2.2.1) (c := c) hD.1.1 hD.1.2.1 hwh.1 hwh.2 hD.1.2.2.1 hb8 hl (by omega) hR) ?_ (hnp := np_mRef_fits)
        refine go_ifeq_b (tgt := 135) dRef_lessen_98 (fun c3 => ?_) (fun c3 => ?_)
        · refine go_iconst (v := 2) dRef_lessen_135 (by decide) ?_
          refine go_iload_n dRef_lessen_136 rfl ?_
          refine go_imul dRef_lessen_137 ?_
          refine go_istore_n dRef_lessen_138 ?_
          refine go_goto (tgt := 78) dRef_lessen_139 ?_
          exact go_at (ih (2 * c) h d (by omega) (by omega) (by rw [Nat.pow_succ] at hn; rw [Nat.mul_comm 2 c, Nat.mul_assoc, Nat.mul_comm 2]; exact hn) hR hs (by rw [hF, lsX, if_pos ((nI_inj (b := 0) (by omega) (by omega)).mp c2), gB, if_neg (Nat.not_le.mpr hl), if_neg (fun q => c3 (hfd.mpr q)), lsX, if_pos ((nI_inj (b := 0) (by omega) (by omega)).mp c2)])) rfl (by rw [← pk_mul 2 c]; rfl) rfl rfl
        · refine go_aload_n dRef_lessen_101 rfl ?_
          refine go_getf dRef_lessen_102 qf_Ref_80 hR.1 rfl ?_
          refine go_top (y := nI σ.1.2.2.2) (by exact hD.1.2.2.2) ?_
          refine go_iconst (v := 3) dRef_lessen_105 (by decide) ?_
          refine go_icmp_ne (tgt := 120) dRef_lessen_106 (fun c4 => ?_) (fun c4 => ?_)
          · refine go_aload_n dRef_lessen_120 rfl ?_
            refine go_getf dRef_lessen_121 qf_Ref_80 hR.1 rfl ?_
            refine go_top (y := nI σ.1.2.2.2) (by exact hD.1.2.2.2) ?_
            refine go_if_eq (tgt := 142) dRef_lessen_124 (fun c5 => ?_) (fun c5 => ?_)
            · exact l_Ref_lessen_e hD hc hcb (by rw [hF, lsX, if_pos ((nI_inj (b := 0) (by omega) (by omega)).mp c2), gB, if_neg (Nat.not_le.mpr hl), if_pos (hfd.mp c3)]; exact ⟨by rw [(nI_inj (b := 0) (by omega) (by omega)).mp c2], fun _ _ => rfl, fun q => absurd ((nI_inj (b := 0) (by omega) (by omega)).mp c2) q, rfl⟩) hR hs
            · refine go_aload_n dRef_lessen_127 rfl ?_
              refine go_getf dRef_lessen_128 qf_Ref_80 hR.1 rfl ?_
              refine go_top (y := nI σ.1.2.2.2) (by exact hD.1.2.2.2) ?_
              refine go_iconst (v := 3) dRef_lessen_131 (by decide) ?_
              refine go_icmp_eq (tgt := 142) dRef_lessen_132 (fun c6 => ?_) (fun c6 => ?_)
              · exact absurd c2 c5
              · refine go_iconst (v := 2) dRef_lessen_135 (by decide) ?_
                refine go_iload_n dRef_lessen_136 rfl ?_
                refine go_imul dRef_lessen_137 ?_
                refine go_istore_n dRef_lessen_138 ?_
                refine go_goto (tgt := 78) dRef_lessen_139 ?_
                exact absurd c2 c5
          · refine go_aload_n dRef_lessen_109 rfl ?_
            refine go_getf dRef_lessen_110 qf_Ref_83 hR.1 rfl ?_
            refine go_iload_n dRef_lessen_113 rfl ?_
            refine go_statP dRef_lessen_114 ok_mRef_mostEntries st_mRef_mostEntries qm_Ref_93 (r_mostEntries hc) ?_ (hnp := np_mRef_mostEntries)
            refine go_icmp_gt (tgt := 135) dRef_lessen_117 (fun c5 => ?_) (fun c5 => ?_)
            · refine go_iconst (v := 2) dRef_lessen_135 (by decide) ?_
              refine go_iload_n dRef_lessen_136 rfl ?_
              refine go_imul dRef_lessen_137 ?_
              refine go_istore_n dRef_lessen_138 ?_
              refine go_goto (tgt := 78) dRef_lessen_139 ?_
              exact absurd (((nI_inj (b := 0) (by omega) (by omega)).mp c2).symm.trans ((nI_inj (b := 3) (by omega) (by omega)).mp c4)) (by decide)
            · refine go_aload_n dRef_lessen_120 rfl ?_
              refine go_getf dRef_lessen_121 qf_Ref_80 hR.1 rfl ?_
              refine go_top (y := nI σ.1.2.2.2) (by exact hD.1.2.2.2) ?_
              refine go_if_eq (tgt := 142) dRef_lessen_124 (fun c6 => ?_) (fun c6 => ?_)
              · exact absurd (((nI_inj (b := 0) (by omega) (by omega)).mp c2).symm.trans ((nI_inj (b := 3) (by omega) (by omega)).mp c4)) (by decide)
              · refine go_aload_n dRef_lessen_127 rfl ?_
                refine go_getf dRef_lessen_128 qf_Ref_80 hR.1 rfl ?_
                refine go_top (y := nI σ.1.2.2.2) (by exact hD.1.2.2.2) ?_
                refine go_iconst (v := 3) dRef_lessen_131 (by decide) ?_
                refine go_icmp_eq (tgt := 142) dRef_lessen_132 (fun c7 => ?_) (fun c7 => ?_)
                · exact absurd (((nI_inj (b := 0) (by omega) (by omega)).mp c2).symm.trans ((nI_inj (b := 3) (by omega) (by omega)).mp c4)) (by decide)
                · refine go_iconst (v := 2) dRef_lessen_135 (by decide) ?_
                  refine go_iload_n dRef_lessen_136 rfl ?_
                  refine go_imul dRef_lessen_137 ?_
                  refine go_istore_n dRef_lessen_138 ?_
                  refine go_goto (tgt := 78) dRef_lessen_139 ?_
                  exact absurd (((nI_inj (b := 0) (by omega) (by omega)).mp c2).symm.trans ((nI_inj (b := 3) (by omega) (by omega)).mp c4)) (by decide)
set_option maxHeartbeats 4000000 in
theorem l_Ref_lessen_2 {E : pmEv} {h0 h : pmH} {z : Option Nat} {d : Bool} {m : Nat} {g : Nat → Int32} {A : Nat → Nat → Int32} {σ F : aPic} (hD : RD g A σ) (hF : F = lsM (lsC σ)) (hR : RfA h m g A) (hs : Sm h0 h m 17) : Go E (mRef_lessen, h0, 0, 0) 49 [some (.ref m), none, none, none] [] (h, z, d) 0 0 (RetX none (fun h' => (∃ f, RfA h' m (upd (upd g 5 (nI F.1.2.2.2)) 4 (nI F.1.2.2.1)) (uA A 0 f) ∧ SaR f F.2.1 F.1) ∧ Sm h0 h' m 17) z) := by
  have hb8 := hD.2.2.1.b
  have hkk := hD.2.2.1.k
  have hwh := hD.2.2.1.w
  have k2 : nI σ.1.2.2.2 = 2 ↔ σ.1.2.2.2 = 2 := nI_inj (b := 2) (by omega) (by omega)
  refine go_aload_n dRef_lessen_49 rfl ?_
  refine go_aload_n dRef_lessen_50 rfl ?_
  refine go_getf dRef_lessen_51 qf_Ref_80 hR.1 rfl ?_
  refine go_top (y := nI σ.1.2.2.2) (by exact hD.1.2.2.2) ?_
  refine go_iconst (v := 2) dRef_lessen_54 (by decide) ?_
  refine go_icmp_ne (tgt := 69) dRef_lessen_55 (fun c1 => ?_) (fun c1 => ?_)
  · refine go_aload_n dRef_lessen_69 rfl ?_
    refine go_getf dRef_lessen_70 qf_Ref_80 hR.1 rfl ?_
    refine go_top (y := nI (lsC σ).1.2.2.2) (by rw [lsC, if_neg (fun q => c1 (by rw [q.1]; rfl))]; exact hD.1.2.2.2) ?_
    refine go_putf dRef_lessen_73 qf_Ref_80 pw_8_5 hR.1 rfl rfl ?_
    refine go_nm (fun hnk1 enk1 => ?_)
    have gsk1 : Sm h hnk1 m 17 := by rw [enk1]; exact (Sm.put' (Sm.refl _ _ _) _ (by omega) (by omega))
    have hRk1 : RfA hnk1 m (upd g 5 (nI (lsC σ).1.2.2.2)) (A) := ⟨(congrFun enk1 m).trans (pmU_s _ _ _), (congrFun enk1 (m + 1)).trans ((pmU_n _ _ (by omega)).trans hR.2.1), (congrFun enk1 (m + 2)).trans ((pmU_n _ _ (by omega)).trans hR.2.2.1), (congrFun enk1 (m + 3)).trans ((pmU_n _ _ (by omega)).trans hR.2.2.2.1), (congrFun enk1 (m + 4)).trans ((pmU_n _ _ (by omega)).trans hR.2.2.2.2.1), (congrFun enk1 (m + 5)).trans ((pmU_n _ _ (by omega)).trans hR.2.2.2.2.2.1), (congrFun enk1 (m + 6)).trans ((pmU_n _ _ (by omega)).trans hR.2.2.2.2.2.2.1), (congrFun enk1 (m + 7)).trans ((pmU_n _ _ (by omega)).trans hR.2.2.2.2.2.2.2.1), (congrFun enk1 (m + 8)).trans ((pmU_n _ _ (by omega)).trans hR.2.2.2.2.2.2.2.2.1), (congrFun enk1 (m + 9)).trans ((pmU_n _ _ (by omega)).trans hR.2.2.2.2.2.2.2.2.2.1), (congrFun enk1 (m + 10)).trans ((pmU_n _ _ (by omega)).trans hR.2.2.2.2.2.2.2.2.2.2.1), (congrFun enk1 (m + 11)).trans ((pmU_n _ _ (by omega)).trans hR.2.2.2.2.2.2.2.2.2.2.2.1), (congrFun enk1 (m + 12)).trans ((pmU_n _ _ (by omega)).trans hR.2.2.2.2.2.2.2.2.2.2.2.2.1), (congrFun enk1 (m + 13)).trans ((pmU_n _ _ (by omega)).trans hR.2.2.2.2.2.2.2.2.2.2.2.2.2.1), (congrFun enk1 (m + 14)).trans ((pmU_n _ _ (by omega)).trans hR.2.2.2.2.2.2.2.2.2.2.2.2.2.2.1), (congrFun enk1 (m + 15)).trans ((pmU_n _ _ (by omega)).trans hR.2.2.2.2.2.2.2.2.2.2.2.2.2.2.2.1), (congrFun enk1 (m + 16)).trans ((pmU_n _ _ (by omega)).trans hR.2.2.2.2.2.2.2.2.2.2.2.2.2.2.2.2)⟩
    have sk1 := hs.trans gsk1
    refine go_iconst (v := 1) dRef_lessen_76 (by decide) ?_
    refine go_istore_n dRef_lessen_77 ?_
    exact (l_Ref_lessen_b hD.keepC 3 1 _ _ (Or.inl rfl) hD.keepC.2.2.1.b.1 (by have := hD.keepC.2.2.1.b; omega) hRk1 sk1 (by rw [hF]; rfl)).mono fun o S q => q
  · have hgy := gy_gry hD.2.1 hwh.1 (by rw [k2.mp c1]; rfl)
    refine go_aload_n dRef_lessen_58 rfl ?_
    refine go_virtP dRef_lessen_59 ok_mRef_isGrey im_mRef_isGrey se_mRef_isGrey qm_Ref_137 hR.1 (r_isGrey (w := σ.1.1) (hh := σ.1.2.1) hD.1.1 hD.1.2.1 hwh.1 hwh.2 hR) ?_ (hnp := np_mRef_isGrey)
    refine go_ifeq_b (tgt := 69) dRef_lessen_62 (fun c2 => ?_) (fun c2 => ?_)
    · refine go_aload_n dRef_lessen_69 rfl ?_
      refine go_getf dRef_lessen_70 qf_Ref_80 hR.1 rfl ?_
      refine go_top (y := nI (lsC σ).1.2.2.2) (by rw [lsC, if_neg (fun q => c2 (hgy.mpr q.2))]; exact hD.1.2.2.2) ?_
      refine go_putf dRef_lessen_73 qf_Ref_80 pw_8_5 hR.1 rfl rfl ?_
      refine go_nm (fun hnk2 enk2 => ?_)
      have gsk2 : Sm h hnk2 m 17 := by rw [enk2]; exact (Sm.put' (Sm.refl _ _ _) _ (by omega) (by omega))
      have hRk2 : RfA hnk2 m (upd g 5 (nI (lsC σ).1.2.2.2)) (A) := ⟨(congrFun enk2 m).trans (pmU_s _ _ _), (congrFun enk2 (m + 1)).trans ((pmU_n _ _ (by omega)).trans hR.2.1), (congrFun enk2 (m + 2)).trans ((pmU_n _ _ (by omega)).trans hR.2.2.1), (congrFun enk2 (m + 3)).trans ((pmU_n _ _ (by omega)).trans hR.2.2.2.1), (congrFun enk2 (m + 4)).trans ((pmU_n _ _ (by omega)).trans hR.2.2.2.2.1), (congrFun enk2 (m + 5)).trans ((pmU_n _ _ (by omega)).trans hR.2.2.2.2.2.1), (congrFun enk2 (m + 6)).trans ((pmU_n _ _ (by omega)).trans hR.2.2.2.2.2.2.1), (congrFun enk2 (m + 7)).trans ((pmU_n _ _ (by omega)).trans hR.2.2.2.2.2.2.2.1), (congrFun enk2 (m + 8)).trans ((pmU_n _ _ (by omega)).trans hR.2.2.2.2.2.2.2.2.1), (congrFun enk2 (m + 9)).trans ((pmU_n _ _ (by omega)).trans hR.2.2.2.2.2.2.2.2.2.1), (congrFun enk2 (m + 10)).trans ((pmU_n _ _ (by omega)).trans hR.2.2.2.2.2.2.2.2.2.2.1), (congrFun enk2 (m + 11)).trans ((pmU_n _ _ (by omega)).trans hR.2.2.2.2.2.2.2.2.2.2.2.1), (congrFun enk2 (m + 12)).trans ((pmU_n _ _ (by omega)).trans hR.2.2.2.2.2.2.2.2.2.2.2.2.1), (congrFun enk2 (m + 13)).trans ((pmU_n _ _ (by omega)).trans hR.2.2.2.2.2.2.2.2.2.2.2.2.2.1), (congrFun enk2 (m + 14)).trans ((pmU_n _ _ (by omega)).trans hR.2.2.2.2.2.2.2.2.2.2.2.2.2.2.1), (congrFun enk2 (m + 15)).trans ((pmU_n _ _ (by omega)).trans hR.2.2.2.2.2.2.2.2.2.2.2.2.2.2.2.1), (congrFun enk2 (m + 16)).trans ((pmU_n _ _ (by omega)).trans hR.2.2.2.2.2.2.2.2.2.2.2.2.2.2.2.2)⟩
      have sk2 := hs.trans gsk2
      refine go_iconst (v := 1) dRef_lessen_76 (by decide) ?_
      refine go_istore_n dRef_lessen_77 ?_
      exact (l_Ref_lessen_b hD.keepC 3 1 _ _ (Or.inl rfl) hD.keepC.2.2.1.b.1 (by have := hD.keepC.2.2.1.b; omega) hRk2 sk2 (by rw [hF]; rfl)).mono fun o S q => q
    · refine go_iconst (v := 0) dRef_lessen_65 (by decide) ?_
      refine go_goto (tgt := 73) dRef_lessen_66 ?_
      refine go_top (y := nI (lsC σ).1.2.2.2) (by rw [lsC, if_pos ⟨k2.mp c1, hgy.mp c2⟩]; rfl) ?_
      refine go_putf dRef_lessen_73 qf_Ref_80 pw_8_5 hR.1 rfl rfl ?_
      refine go_nm (fun hnk3 enk3 => ?_)
      have gsk3 : Sm h hnk3 m 17 := by rw [enk3]; exact (Sm.put' (Sm.refl _ _ _) _ (by omega) (by omega))
      have hRk3 : RfA hnk3 m (upd g 5 (nI (lsC σ).1.2.2.2)) (A) := ⟨(congrFun enk3 m).trans (pmU_s _ _ _), (congrFun enk3 (m + 1)).trans ((pmU_n _ _ (by omega)).trans hR.2.1), (congrFun enk3 (m + 2)).trans ((pmU_n _ _ (by omega)).trans hR.2.2.1), (congrFun enk3 (m + 3)).trans ((pmU_n _ _ (by omega)).trans hR.2.2.2.1), (congrFun enk3 (m + 4)).trans ((pmU_n _ _ (by omega)).trans hR.2.2.2.2.1), (congrFun enk3 (m + 5)).trans ((pmU_n _ _ (by omega)).trans hR.2.2.2.2.2.1), (congrFun enk3 (m + 6)).trans ((pmU_n _ _ (by omega)).trans hR.2.2.2.2.2.2.1), (congrFun enk3 (m + 7)).trans ((pmU_n _ _ (by omega)).trans hR.2.2.2.2.2.2.2.1), (congrFun enk3 (m + 8)).trans ((pmU_n _ _ (by omega)).trans hR.2.2.2.2.2.2.2.2.1), (congrFun enk3 (m + 9)).trans ((pmU_n _ _ (by omega)).trans hR.2.2.2.2.2.2.2.2.2.1), (congrFun enk3 (m + 10)).trans ((pmU_n _ _ (by omega)).trans hR.2.2.2.2.2.2.2.2.2.2.1), (congrFun enk3 (m + 11)).trans ((pmU_n _ _ (by omega)).trans hR.2.2.2.2.2.2.2.2.2.2.2.1), (congrFun enk3 (m + 12)).trans ((pmU_n _ _ (by omega)).trans hR.2.2.2.2.2.2.2.2.2.2.2.2.1), (congrFun enk3 (m + 13)).trans ((pmU_n _ _ (by omega)).trans hR.2.2.2.2.2.2.2.2.2.2.2.2.2.1), (congrFun enk3 (m + 14)).trans ((pmU_n _ _ (by omega)).trans hR.2.2.2.2.2.2.2.2.2.2.2.2.2.2.1), (congrFun enk3 (m + 15)).trans ((pmU_n _ _ (by omega)).trans hR.2.2.2.2.2.2.2.2.2.2.2.2.2.2.2.1), (congrFun enk3 (m + 16)).trans ((pmU_n _ _ (by omega)).trans hR.2.2.2.2.2.2.2.2.2.2.2.2.2.2.2.2)⟩
      have sk3 := hs.trans gsk3
      refine go_iconst (v := 1) dRef_lessen_76 (by decide) ?_
      refine go_istore_n dRef_lessen_77 ?_
      exact (l_Ref_lessen_b hD.keepC 3 1 _ _ (Or.inl rfl) hD.keepC.2.2.1.b.1 (by have := hD.keepC.2.2.1.b; omega) hRk3 sk3 (by rw [hF]; rfl)).mono fun o S q => q
set_option maxHeartbeats 4000000 in
theorem r_lessen {E : pmEv} {h : pmH} {z : Option Nat} {m : Nat} {g : Nat → Int32} {A : Nat → Nat → Int32} {σ F : aPic} (hD : RD g A σ) (hF : F = lsM (lsC (lsA σ))) (hR : RfA h m g A) : Call E mRef_lessen [.ref m] h z 0 0 (RetX none (fun h' => (∃ f, RfA h' m (upd (upd g 5 (nI F.1.2.2.2)) 4 (nI F.1.2.2.1)) (uA A 0 f) ∧ SaR f F.2.1 F.1) ∧ Sm h h' m 17) z) := by
  have hs : Sm h h m 17 := Sm.refl _ _ _
  have hb8 := hD.2.2.1.b
  have hkk := hD.2.2.1.k
  have hwh := hD.2.2.1.w
  have k6 : nI σ.1.2.2.2 = 6 ↔ σ.1.2.2.2 = 6 := nI_inj (b := 6) (by omega) (by omega)
  have k4 : nI σ.1.2.2.2 = 4 ↔ σ.1.2.2.2 = 4 := nI_inj (b := 4) (by omega) (by omega)
  refine call_of (L := [some (.ref m), none, none, none]) ok_mRef_lessen (Nat.le_of_ble_eq_true rfl) ?_
  refine go_aload_n dRef_lessen_0 rfl ?_
  refine go_aload_n dRef_lessen_1 rfl ?_
  refine go_getf dRef_lessen_2 qf_Ref_80 hR.1 rfl ?_
  refine go_top (y := nI σ.1.2.2.2) (by exact hD.1.2.2.2) ?_
  refine go_bipush (v := 6) dRef_lessen_5 (by decide) ?_
  refine go_icmp_ne (tgt := 22) dRef_lessen_7 (fun c1 => ?_) (fun c1 => ?_)
  · refine go_aload_n dRef_lessen_22 rfl ?_
    refine go_getf dRef_lessen_23 qf_Ref_80 hR.1 rfl ?_
    refine go_top (y := nI σ.1.2.2.2) (by exact hD.1.2.2.2) ?_
    refine go_iconst (v := 4) dRef_lessen_26 (by decide) ?_
    refine go_icmp_ne (tgt := 42) dRef_lessen_27 (fun c2 => ?_) (fun c2 => ?_)
    · refine go_aload_n dRef_lessen_42 rfl ?_
      refine go_getf dRef_lessen_43 qf_Ref_80 hR.1 rfl ?_
      refine go_top (y := nI (lsA σ).1.2.2.2) (by rw [lsA, if_neg (fun q => c1 (by rw [q.1]; rfl)), if_neg (fun q => c2 (by rw [q.1]; rfl))]; exact hD.1.2.2.2) ?_
      refine go_putf dRef_lessen_46 qf_Ref_80 pw_8_5 hR.1 rfl rfl ?_
      refine go_nm (fun hnk1 enk1 => ?_)
      have gsk1 : Sm h hnk1 m 17 := by rw [enk1]; exact (Sm.put' (Sm.refl _ _ _) _ (by omega) (by omega))
      have hRk1 : RfA hnk1 m (upd g 5 (nI (lsA σ).1.2.2.2)) (A) := ⟨(congrFun enk1 m).trans (pmU_s _ _ _), (congrFun enk1 (m + 1)).trans ((pmU_n _ _ (by omega)).trans hR.2.1), (congrFun enk1 (m + 2)).trans ((pmU_n _ _ (by omega)).trans hR.2.2.1), (congrFun enk1 (m + 3)).trans ((pmU_n _ _ (by omega)).trans hR.2.2.2.1), (congrFun enk1 (m + 4)).trans ((pmU_n _ _ (by omega)).trans hR.2.2.2.2.1), (congrFun enk1 (m + 5)).trans ((pmU_n _ _ (by omega)).trans hR.2.2.2.2.2.1), (congrFun enk1 (m + 6)).trans ((pmU_n _ _ (by omega)).trans hR.2.2.2.2.2.2.1), (congrFun enk1 (m + 7)).trans ((pmU_n _ _ (by omega)).trans hR.2.2.2.2.2.2.2.1), (congrFun enk1 (m + 8)).trans ((pmU_n _ _ (by omega)).trans hR.2.2.2.2.2.2.2.2.1), (congrFun enk1 (m + 9)).trans ((pmU_n _ _ (by omega)).trans hR.2.2.2.2.2.2.2.2.2.1), (congrFun enk1 (m + 10)).trans ((pmU_n _ _ (by omega)).trans hR.2.2.2.2.2.2.2.2.2.2.1), (congrFun enk1 (m + 11)).trans ((pmU_n _ _ (by omega)).trans hR.2.2.2.2.2.2.2.2.2.2.2.1), (congrFun enk1 (m + 12)).trans ((pmU_n _ _ (by omega)).trans hR.2.2.2.2.2.2.2.2.2.2.2.2.1), (congrFun enk1 (m + 13)).trans ((pmU_n _ _ (by omega)).trans hR.2.2.2.2.2.2.2.2.2.2.2.2.2.1), (congrFun enk1 (m + 14)).trans ((pmU_n _ _ (by omega)).trans hR.2.2.2.2.2.2.2.2.2.2.2.2.2.2.1), (congrFun enk1 (m + 15)).trans ((pmU_n _ _ (by omega)).trans hR.2.2.2.2.2.2.2.2.2.2.2.2.2.2.2.1), (congrFun enk1 (m + 16)).trans ((pmU_n _ _ (by omega)).trans hR.2.2.2.2.2.2.2.2.2.2.2.2.2.2.2.2)⟩
      have sk1 := hs.trans gsk1
      exact (l_Ref_lessen_2 hD.keepA hF hRk1 sk1).mono fun o S q => q
    · have hf4 := fl_opq (u := 1) hD.2.1 hwh.1 (by rw [k4.mp c2]; rfl)
      refine go_aload_n dRef_lessen_30 rfl ?_
      refine go_iconst (v := 1) dRef_lessen_31 (by decide) ?_
      refine go_virtP dRef_lessen_32 ok_mRef_isFull im_mRef_isFull se_mRef_isFull qm_Ref_134 hR.1 (r_isFull (w := σ.1.1) (hh := σ.1.2.1) (u := 1) hD.1.1 hD.1.2.1 hwh.1 hwh.2 (by omega) hR) ?_ (hnp := np_mRef_isFull)
      refine go_ifeq_b (tgt := 42) dRef_lessen_35 (fun c3 => ?_) (fun c3 => ?_)
      · refine go_aload_n dRef_lessen_42 rfl ?_
        refine go_getf dRef_lessen_43 qf_Ref_80 hR.1 rfl ?_
        refine go_top (y := nI (lsA σ).1.2.2.2) (by rw [lsA, if_neg (fun q => c1 (by rw [q.1]; rfl)), if_neg (fun q => c3 (hf4.mpr q.2))]; exact hD.1.2.2.2) ?_
        refine go_putf dRef_lessen_46 qf_Ref_80 pw_8_5 hR.1 rfl rfl ?_
        refine go_nm (fun hnk2 enk2 => ?_)
        have gsk2 : Sm h hnk2 m 17 := by rw [enk2]; exact (Sm.put' (Sm.refl _ _ _) _ (by omega) (by omega))
        have hRk2 : RfA hnk2 m (upd g 5 (nI (lsA σ).1.2.2.2)) (A) := ⟨(congrFun enk2 m).trans (pmU_s _ _ _), (congrFun enk2 (m + 1)).trans ((pmU_n _ _ (by omega)).trans hR.2.1), (congrFun enk2 (m + 2)).trans ((pmU_n _ _ (by omega)).trans hR.2.2.1), (congrFun enk2 (m + 3)).trans ((pmU_n _ _ (by omega)).trans hR.2.2.2.1), (congrFun enk2 (m + 4)).trans ((pmU_n _ _ (by omega)).trans hR.2.2.2.2.1), (congrFun enk2 (m + 5)).trans ((pmU_n _ _ (by omega)).trans hR.2.2.2.2.2.1), (congrFun enk2 (m + 6)).trans ((pmU_n _ _ (by omega)).trans hR.2.2.2.2.2.2.1), (congrFun enk2 (m + 7)).trans ((pmU_n _ _ (by omega)).trans hR.2.2.2.2.2.2.2.1), (congrFun enk2 (m + 8)).trans ((pmU_n _ _ (by omega)).trans hR.2.2.2.2.2.2.2.2.1), (congrFun enk2 (m + 9)).trans ((pmU_n _ _ (by omega)).trans hR.2.2.2.2.2.2.2.2.2.1), (congrFun enk2 (m + 10)).trans ((pmU_n _ _ (by omega)).trans hR.2.2.2.2.2.2.2.2.2.2.1), (congrFun enk2 (m + 11)).trans ((pmU_n _ _ (by omega)).trans hR.2.2.2.2.2.2.2.2.2.2.2.1), (congrFun enk2 (m + 12)).trans ((pmU_n _ _ (by omega)).trans hR.2.2.2.2.2.2.2.2.2.2.2.2.1), (congrFun enk2 (m + 13)).trans ((pmU_n _ _ (by omega)).trans hR.2.2.2.2.2.2.2.2.2.2.2.2.2.1), (congrFun enk2 (m + 14)).trans ((pmU_n _ _ (by omega)).trans hR.2.2.2.2.2.2.2.2.2.2.2.2.2.2.1), (congrFun enk2 (m + 15)).trans ((pmU_n _ _ (by omega)).trans hR.2.2.2.2.2.2.2.2.2.2.2.2.2.2.2.1), (congrFun enk2 (m + 16)).trans ((pmU_n _ _ (by omega)).trans hR.2.2.2.2.2.2.2.2.2.2.2.2.2.2.2.2)⟩
        have sk2 := hs.trans gsk2
        exact (l_Ref_lessen_2 hD.keepA hF hRk2 sk2).mono fun o S q => q
      · refine go_iconst (v := 0) dRef_lessen_38 (by decide) ?_
        refine go_goto (tgt := 46) dRef_lessen_39 ?_
        refine go_top (y := nI (lsA σ).1.2.2.2) (by rw [lsA, if_neg (fun q => c1 (by rw [q.1]; rfl)), if_pos ⟨k4.mp c2, hf4.mp c3⟩]; rfl) ?_
        refine go_putf dRef_lessen_46 qf_Ref_80 pw_8_5 hR.1 rfl rfl ?_
        refine go_nm (fun hnk3 enk3 => ?_)
        have gsk3 : Sm h hnk3 m 17 := by rw [enk3]; exact (Sm.put' (Sm.refl _ _ _) _ (by omega) (by omega))
        have hRk3 : RfA hnk3 m (upd g 5 (nI (lsA σ).1.2.2.2)) (A) := ⟨(congrFun enk3 m).trans (pmU_s _ _ _), (congrFun enk3 (m + 1)).trans ((pmU_n _ _ (by omega)).trans hR.2.1), (congrFun enk3 (m + 2)).trans ((pmU_n _ _ (by omega)).trans hR.2.2.1), (congrFun enk3 (m + 3)).trans ((pmU_n _ _ (by omega)).trans hR.2.2.2.1), (congrFun enk3 (m + 4)).trans ((pmU_n _ _ (by omega)).trans hR.2.2.2.2.1), (congrFun enk3 (m + 5)).trans ((pmU_n _ _ (by omega)).trans hR.2.2.2.2.2.1), (congrFun enk3 (m + 6)).trans ((pmU_n _ _ (by omega)).trans hR.2.2.2.2.2.2.1), (congrFun enk3 (m + 7)).trans ((pmU_n _ _ (by omega)).trans hR.2.2.2.2.2.2.2.1), (congrFun enk3 (m + 8)).trans ((pmU_n _ _ (by omega)).trans hR.2.2.2.2.2.2.2.2.1), (congrFun enk3 (m + 9)).trans ((pmU_n _ _ (by omega)).trans hR.2.2.2.2.2.2.2.2.2.1), (congrFun enk3 (m + 10)).trans ((pmU_n _ _ (by omega)).trans hR.2.2.2.2.2.2.2.2.2.2.1), (congrFun enk3 (m + 11)).trans ((pmU_n _ _ (by omega)).trans hR.2.2.2.2.2.2.2.2.2.2.2.1), (congrFun enk3 (m + 12)).trans ((pmU_n _ _ (by omega)).trans hR.2.2.2.2.2.2.2.2.2.2.2.2.1), (congrFun enk3 (m + 13)).trans ((pmU_n _ _ (by omega)).trans hR.2.2.2.2.2.2.2.2.2.2.2.2.2.1), (congrFun enk3 (m + 14)).trans ((pmU_n _ _ (by omega)).trans hR.2.2.2.2.2.2.2.2.2.2.2.2.2.2.1), (congrFun enk3 (m + 15)).trans ((pmU_n _ _ (by omega)).trans hR.2.2.2.2.2.2.2.2.2.2.2.2.2.2.2.1), (congrFun enk3 (m + 16)).trans ((pmU_n _ _ (by omega)).trans hR.2.2.2.2.2.2.2.2.2.2.2.2.2.2.2.2)⟩
        have sk3 := hs.trans gsk3
        exact (l_Ref_lessen_2 hD.keepA hF hRk3 sk3).mono fun o S q => q
  · have hf6 := fl_opq (u := 3) hD.2.1 hwh.1 (by rw [k6.mp c1]; rfl)
    refine go_aload_n dRef_lessen_10 rfl ?_
    refine go_iconst (v := 3) dRef_lessen_11 (by decide) ?_
    refine go_virtP dRef_lessen_12 ok_mRef_isFull im_mRef_isFull se_mRef_isFull qm_Ref_134 hR.1 (r_isFull (w := σ.1.1) (hh := σ.1.2.1) (u := 3) hD.1.1 hD.1.2.1 hwh.1 hwh.2 (by omega) hR) ?_ (hnp := np_mRef_isFull)
    refine go_ifeq_b (tgt := 22) dRef_lessen_15 (fun c2 => ?_) (fun c2 => ?_)
    · refine go_aload_n dRef_lessen_22 rfl ?_
      refine go_getf dRef_lessen_23 qf_Ref_80 hR.1 rfl ?_
      refine go_top (y := nI σ.1.2.2.2) (by exact hD.1.2.2.2) ?_
      refine go_iconst (v := 4) dRef_lessen_26 (by decide) ?_
      refine go_icmp_ne (tgt := 42) dRef_lessen_27 (fun c3 => ?_) (fun c3 => ?_)
      · refine go_aload_n dRef_lessen_42 rfl ?_
        refine go_getf dRef_lessen_43 qf_Ref_80 hR.1 rfl ?_
        refine go_top (y := nI (lsA σ).1.2.2.2) (by rw [lsA, if_neg (fun q => c2 (hf6.mpr q.2)), if_neg (fun q => c3 (by rw [q.1]; rfl))]; exact hD.1.2.2.2) ?_
        refine go_putf dRef_lessen_46 qf_Ref_80 pw_8_5 hR.1 rfl rfl ?_
        refine go_nm (fun hnk4 enk4 => ?_)
        have gsk4 : Sm h hnk4 m 17 := by rw [enk4]; exact (Sm.put' (Sm.refl _ _ _) _ (by omega) (by omega))
        have hRk4 : RfA hnk4 m (upd g 5 (nI (lsA σ).1.2.2.2)) (A) := ⟨(congrFun enk4 m).trans (pmU_s _ _ _), (congrFun enk4 (m + 1)).trans ((pmU_n _ _ (by omega)).trans hR.2.1), (congrFun enk4 (m + 2)).trans ((pmU_n _ _ (by omega)).trans hR.2.2.1), (congrFun enk4 (m + 3)).trans ((pmU_n _ _ (by omega)).trans hR.2.2.2.1), (congrFun enk4 (m + 4)).trans ((pmU_n _ _ (by omega)).trans hR.2.2.2.2.1), (congrFun enk4 (m + 5)).trans ((pmU_n _ _ (by omega)).trans hR.2.2.2.2.2.1), (congrFun enk4 (m + 6)).trans ((pmU_n _ _ (by omega)).trans hR.2.2.2.2.2.2.1), (congrFun enk4 (m + 7)).trans ((pmU_n _ _ (by omega)).trans hR.2.2.2.2.2.2.2.1), (congrFun enk4 (m + 8)).trans ((pmU_n _ _ (by omega)).trans hR.2.2.2.2.2.2.2.2.1), (congrFun enk4 (m + 9)).trans ((pmU_n _ _ (by omega)).trans hR.2.2.2.2.2.2.2.2.2.1), (congrFun enk4 (m + 10)).trans ((pmU_n _ _ (by omega)).trans hR.2.2.2.2.2.2.2.2.2.2.1), (congrFun enk4 (m + 11)).trans ((pmU_n _ _ (by omega)).trans hR.2.2.2.2.2.2.2.2.2.2.2.1), (congrFun enk4 (m + 12)).trans ((pmU_n _ _ (by omega)).trans hR.2.2.2.2.2.2.2.2.2.2.2.2.1), (congrFun enk4 (m + 13)).trans ((pmU_n _ _ (by omega)).trans hR.2.2.2.2.2.2.2.2.2.2.2.2.2.1), (congrFun enk4 (m + 14)).trans ((pmU_n _ _ (by omega)).trans hR.2.2.2.2.2.2.2.2.2.2.2.2.2.2.1), (congrFun enk4 (m + 15)).trans ((pmU_n _ _ (by omega)).trans hR.2.2.2.2.2.2.2.2.2.2.2.2.2.2.2.1), (congrFun enk4 (m + 16)).trans ((pmU_n _ _ (by omega)).trans hR.2.2.2.2.2.2.2.2.2.2.2.2.2.2.2.2)⟩
        have sk4 := hs.trans gsk4
        exact (l_Ref_lessen_2 hD.keepA hF hRk4 sk4).mono fun o S q => q
      · exact absurd ((k6.mp c1).symm.trans (k4.mp c3)) (by decide)
    · refine go_iconst (v := 2) dRef_lessen_18 (by decide) ?_
      refine go_goto (tgt := 46) dRef_lessen_19 ?_
      refine go_top (y := nI (lsA σ).1.2.2.2) (by rw [lsA, if_pos ⟨k6.mp c1, hf6.mp c2⟩]; rfl) ?_
      refine go_putf dRef_lessen_46 qf_Ref_80 pw_8_5 hR.1 rfl rfl ?_
      refine go_nm (fun hnk5 enk5 => ?_)
      have gsk5 : Sm h hnk5 m 17 := by rw [enk5]; exact (Sm.put' (Sm.refl _ _ _) _ (by omega) (by omega))
      have hRk5 : RfA hnk5 m (upd g 5 (nI (lsA σ).1.2.2.2)) (A) := ⟨(congrFun enk5 m).trans (pmU_s _ _ _), (congrFun enk5 (m + 1)).trans ((pmU_n _ _ (by omega)).trans hR.2.1), (congrFun enk5 (m + 2)).trans ((pmU_n _ _ (by omega)).trans hR.2.2.1), (congrFun enk5 (m + 3)).trans ((pmU_n _ _ (by omega)).trans hR.2.2.2.1), (congrFun enk5 (m + 4)).trans ((pmU_n _ _ (by omega)).trans hR.2.2.2.2.1), (congrFun enk5 (m + 5)).trans ((pmU_n _ _ (by omega)).trans hR.2.2.2.2.2.1), (congrFun enk5 (m + 6)).trans ((pmU_n _ _ (by omega)).trans hR.2.2.2.2.2.2.1), (congrFun enk5 (m + 7)).trans ((pmU_n _ _ (by omega)).trans hR.2.2.2.2.2.2.2.1), (congrFun enk5 (m + 8)).trans ((pmU_n _ _ (by omega)).trans hR.2.2.2.2.2.2.2.2.1), (congrFun enk5 (m + 9)).trans ((pmU_n _ _ (by omega)).trans hR.2.2.2.2.2.2.2.2.2.1), (congrFun enk5 (m + 10)).trans ((pmU_n _ _ (by omega)).trans hR.2.2.2.2.2.2.2.2.2.2.1), (congrFun enk5 (m + 11)).trans ((pmU_n _ _ (by omega)).trans hR.2.2.2.2.2.2.2.2.2.2.2.1), (congrFun enk5 (m + 12)).trans ((pmU_n _ _ (by omega)).trans hR.2.2.2.2.2.2.2.2.2.2.2.2.1), (congrFun enk5 (m + 13)).trans ((pmU_n _ _ (by omega)).trans hR.2.2.2.2.2.2.2.2.2.2.2.2.2.1), (congrFun enk5 (m + 14)).trans ((pmU_n _ _ (by omega)).trans hR.2.2.2.2.2.2.2.2.2.2.2.2.2.2.1), (congrFun enk5 (m + 15)).trans ((pmU_n _ _ (by omega)).trans hR.2.2.2.2.2.2.2.2.2.2.2.2.2.2.2.1), (congrFun enk5 (m + 16)).trans ((pmU_n _ _ (by omega)).trans hR.2.2.2.2.2.2.2.2.2.2.2.2.2.2.2.2)⟩
      have sk5 := hs.trans gsk5
      exact (l_Ref_lessen_2 hD.keepA hF hRk5 sk5).mono fun o S q => q
set_option maxHeartbeats 4000000 in
theorem r_reduce {E : pmEv} {h : pmH} {m : Nat} {g : Nat → Int32} {A : Nat → Nat → Int32} {α : aPF} (hR : RfA h m g A) (hr : RR g A α) (hv : IvA α) : Call E mRef_reduce [.ref m] h none 0 0 (RetR m h [1] (some (.int 0)) (reF α)) := by
  have hs : Sm h h m 17 := Sm.refl _ _ _
  have ho := hr.1
  have ht : g 1 = 0 ↔ ¬ α.1.1 = true := by rw [ho.1]; exact bI_0
  have hok := hv.1.1
  have hb := hok.b
  have hkk := hok.k
  have hwh := hok.w
  have hch := chN_le α.1.2.1.2.2.2
  have hc64 := hv.1.2.1.1
  have hx6 := hv.1.2.2.1.1
  refine call_of (L := [some (.ref m), none, none]) ok_mRef_reduce (Nat.le_of_ble_eq_true rfl) ?_
  refine go_aload_n dRef_reduce_0 rfl ?_
  refine go_aload_n dRef_reduce_1 rfl ?_
  refine go_getf dRef_reduce_2 qf_Ref_67 hR.1 rfl ?_
  refine go_if_eq (tgt := 12) dRef_reduce_5 (fun c1 => ?_) (fun c1 => ?_)
  · refine go_iconst (v := 1) dRef_reduce_12 (by decide) ?_
    refine go_putf dRef_reduce_13 qf_Ref_59 pw_8_0 hR.1 rfl rfl ?_
    refine go_aload_n dRef_reduce_16 rfl ?_
    refine go_getf dRef_reduce_17 qf_Ref_59 (pmU_s _ _ _) rfl ?_
    refine go_if_le (tgt := 25) dRef_reduce_20 (fun cc => absurd cc (by decide)) (fun _ => ?_)
    refine go_nm (fun hnk1 enk1 => ?_)
    have gsk1 : Sm h hnk1 m 17 := by rw [enk1]; exact (Sm.put' (Sm.refl _ _ _) _ (by omega) (by omega))
    have hRk1 : RfA hnk1 m (upd g 0 1) (A) := ⟨(congrFun enk1 m).trans (pmU_s _ _ _), (congrFun enk1 (m + 1)).trans ((pmU_n _ _ (by omega)).trans hR.2.1), (congrFun enk1 (m + 2)).trans ((pmU_n _ _ (by omega)).trans hR.2.2.1), (congrFun enk1 (m + 3)).trans ((pmU_n _ _ (by omega)).trans hR.2.2.2.1), (congrFun enk1 (m + 4)).trans ((pmU_n _ _ (by omega)).trans hR.2.2.2.2.1), (congrFun enk1 (m + 5)).trans ((pmU_n _ _ (by omega)).trans hR.2.2.2.2.2.1), (congrFun enk1 (m + 6)).trans ((pmU_n _ _ (by omega)).trans hR.2.2.2.2.2.2.1), (congrFun enk1 (m + 7)).trans ((pmU_n _ _ (by omega)).trans hR.2.2.2.2.2.2.2.1), (congrFun enk1 (m + 8)).trans ((pmU_n _ _ (by omega)).trans hR.2.2.2.2.2.2.2.2.1), (congrFun enk1 (m + 9)).trans ((pmU_n _ _ (by omega)).trans hR.2.2.2.2.2.2.2.2.2.1), (congrFun enk1 (m + 10)).trans ((pmU_n _ _ (by omega)).trans hR.2.2.2.2.2.2.2.2.2.2.1), (congrFun enk1 (m + 11)).trans ((pmU_n _ _ (by omega)).trans hR.2.2.2.2.2.2.2.2.2.2.2.1), (congrFun enk1 (m + 12)).trans ((pmU_n _ _ (by omega)).trans hR.2.2.2.2.2.2.2.2.2.2.2.2.1), (congrFun enk1 (m + 13)).trans ((pmU_n _ _ (by omega)).trans hR.2.2.2.2.2.2.2.2.2.2.2.2.2.1), (congrFun enk1 (m + 14)).trans ((pmU_n _ _ (by omega)).trans hR.2.2.2.2.2.2.2.2.2.2.2.2.2.2.1), (congrFun enk1 (m + 15)).trans ((pmU_n _ _ (by omega)).trans hR.2.2.2.2.2.2.2.2.2.2.2.2.2.2.2.1), (congrFun enk1 (m + 16)).trans ((pmU_n _ _ (by omega)).trans hR.2.2.2.2.2.2.2.2.2.2.2.2.2.2.2.2)⟩
    have sk1 := hs.trans gsk1
    refine go_iconst (v := 0) dRef_reduce_23 (by decide) ?_
    refine go_iret dRef_reduce_24 rfl rfl ?_ (Nat.le_of_ble_eq_true rfl) (Nat.le_of_ble_eq_true rfl)
    exact retR_no (by rw [reF, if_pos (ht.mp c1)]) hRk1 hr rfl sk1
  · have t1 : α.1.1 = true := Decidable.not_not.mp fun q => c1 (ht.mpr q)
    have hd := (ho.2.1 t1).1
    have hD : RD (upd g 0 0) A α.1.2 := ⟨hd, (ho.2.1 t1).2.1, hok, ho.2.2.1.1, hc64⟩
    have h3 := ls3 α.1.2
    have hF := (rd_okF hD)
    have hFk := hF.k
    have hFb := hF.b
    refine go_iconst (v := 0) dRef_reduce_8 (by decide) ?_
    refine go_goto (tgt := 13) dRef_reduce_9 ?_
    refine go_putf dRef_reduce_13 qf_Ref_59 pw_8_0 hR.1 rfl rfl ?_
    refine go_aload_n dRef_reduce_16 rfl ?_
    refine go_getf dRef_reduce_17 qf_Ref_59 (pmU_s _ _ _) rfl ?_
    refine go_if_le (tgt := 25) dRef_reduce_20 (fun _ => ?_) (fun cc => absurd (by decide) cc)
    refine go_nm (fun hnk2 enk2 => ?_)
    have gsk2 : Sm h hnk2 m 17 := by rw [enk2]; exact (Sm.put' (Sm.refl _ _ _) _ (by omega) (by omega))
    have hRk2 : RfA hnk2 m (upd g 0 0) (A) := ⟨(congrFun enk2 m).trans (pmU_s _ _ _), (congrFun enk2 (m + 1)).trans ((pmU_n _ _ (by omega)).trans hR.2.1), (congrFun enk2 (m + 2)).trans ((pmU_n _ _ (by omega)).trans hR.2.2.1), (congrFun enk2 (m + 3)).trans ((pmU_n _ _ (by omega)).trans hR.2.2.2.1), (congrFun enk2 (m + 4)).trans ((pmU_n _ _ (by omega)).trans hR.2.2.2.2.1), (congrFun enk2 (m + 5)).trans ((pmU_n _ _ (by omega)).trans hR.2.2.2.2.2.1), (congrFun enk2 (m + 6)).trans ((pmU_n _ _ (by omega)).trans hR.2.2.2.2.2.2.1), (congrFun enk2 (m + 7)).trans ((pmU_n _ _ (by omega)).trans hR.2.2.2.2.2.2.2.1), (congrFun enk2 (m + 8)).trans ((pmU_n _ _ (by omega)).trans hR.2.2.2.2.2.2.2.2.1), (congrFun enk2 (m + 9)).trans ((pmU_n _ _ (by omega)).trans hR.2.2.2.2.2.2.2.2.2.1), (congrFun enk2 (m + 10)).trans ((pmU_n _ _ (by omega)).trans hR.2.2.2.2.2.2.2.2.2.2.1), (congrFun enk2 (m + 11)).trans ((pmU_n _ _ (by omega)).trans hR.2.2.2.2.2.2.2.2.2.2.2.1), (congrFun enk2 (m + 12)).trans ((pmU_n _ _ (by omega)).trans hR.2.2.2.2.2.2.2.2.2.2.2.2.1), (congrFun enk2 (m + 13)).trans ((pmU_n _ _ (by omega)).trans hR.2.2.2.2.2.2.2.2.2.2.2.2.2.1), (congrFun enk2 (m + 14)).trans ((pmU_n _ _ (by omega)).trans hR.2.2.2.2.2.2.2.2.2.2.2.2.2.2.1), (congrFun enk2 (m + 15)).trans ((pmU_n _ _ (by omega)).trans hR.2.2.2.2.2.2.2.2.2.2.2.2.2.2.2.1), (congrFun enk2 (m + 16)).trans ((pmU_n _ _ (by omega)).trans hR.2.2.2.2.2.2.2.2.2.2.2.2.2.2.2.2)⟩
    have sk2 := hs.trans gsk2
    refine go_aload_n dRef_reduce_25 rfl ?_
    refine go_getf dRef_reduce_26 qf_Ref_80 hRk2.1 rfl ?_
    refine go_top (y := nI α.1.2.1.2.2.2) (by exact hd.2.2.2) ?_
    refine go_istore_n dRef_reduce_29 ?_
    refine go_aload_n dRef_reduce_30 rfl ?_
    refine go_getf dRef_reduce_31 qf_Ref_77 hRk2.1 rfl ?_
    refine go_top (y := nI α.1.2.1.2.2.1) (by exact hd.2.2.1) ?_
    refine go_istore_n dRef_reduce_34 ?_
    refine go_aload_n dRef_reduce_35 rfl ?_
    refine go_virtX dRef_reduce_36 ok_mRef_lessen im_mRef_lessen se_mRef_lessen qm_Ref_144 hRk2.1 (r_lessen (g := upd g 0 0) (σ := α.1.2) (F := (lsM (lsC (lsA α.1.2)))) hD rfl hRk2) (fun hx2 d2 q2 => ?_) (hnp := np_mRef_lessen)
    obtain ⟨⟨f, hR2, hsa⟩, t2⟩ := q2
    have s2 := sk2.trans t2
    refine go_aload_n dRef_reduce_39 rfl ?_
    refine go_getf dRef_reduce_40 qf_Ref_80 hR2.1 rfl ?_
    refine go_top (y := nI (lsM (lsC (lsA α.1.2))).1.2.2.2) (by exact rfl) ?_
    refine go_iload_n dRef_reduce_43 rfl ?_
    refine go_icmp_ne (tgt := 55) dRef_reduce_44 (fun c3 => ?_) (fun c3 => ?_)
    · refine go_aload_n dRef_reduce_55 rfl ?_
      refine go_virtX dRef_reduce_56 ok_mRef_change im_mRef_change se_mRef_change qm_Ref_97 hR2.1 (r_change (g := (upd (upd (upd g 0 0) 5 (nI (lsM (lsC (lsA α.1.2))).1.2.2.2)) 4 (nI (lsM (lsC (lsA α.1.2))).1.2.2.1))) (A := (uA A 0 f)) (e := (lsM (lsC (lsA α.1.2))).2.2.2.2) (by rw [h3.2.2]; exact ho.2.2.2.1) (by rw [h3.2.2]; exact hx6) (by rw [h3.2.2]; exact ho.2.2.2.2) (by rw [h3.2.2]; exact fun k hk => (hv.1.2.2.1.2 k hk).1) hR2) (fun hx4 d4 q4 => ?_) (hnp := np_mRef_change)
      obtain ⟨⟨fl, fs, fb, hR4, hE9⟩, t4⟩ := q4
      have s4 := s2.trans t4
      refine go_bipush (v := 10) dRef_reduce_59 (by decide) ?_
      refine go_aload_n dRef_reduce_61 rfl ?_
      refine go_getf dRef_reduce_62 qf_Ref_80 hR4.1 rfl ?_
      refine go_top (y := nI (lsM (lsC (lsA α.1.2))).1.2.2.2) (by exact rfl) ?_
      refine go_imul dRef_reduce_65 ?_
      refine go_aload_n dRef_reduce_66 rfl ?_
      refine go_getf dRef_reduce_67 qf_Ref_77 hR4.1 rfl ?_
      refine go_top (y := nI (lsM (lsC (lsA α.1.2))).1.2.2.1) (by exact rfl) ?_
      refine go_iadd dRef_reduce_70 ?_
      refine go_iret dRef_reduce_71 rfl rfl ?_ (Nat.le_of_ble_eq_true rfl) (Nat.le_of_ble_eq_true rfl)
      have eq : lsAll α.1.2 = piSafe (lsM (lsC (lsA α.1.2))) := by rw [lsAll, lsF, if_neg (fun q => c3 (by rw [q.1]))]
      exact retR_ok (β := ((α.1.1, piSafe (lsM (lsC (lsA α.1.2)))), α.2)) (by rw [reF, if_neg (fun q => q t1), eq]; rfl) hR4 ⟨RO_sf ho hd h3 hsa hE9, hr.2.1, hr.2.2.1, hr.2.2.2⟩ rfl s4
    · refine go_aload_n dRef_reduce_47 rfl ?_
      refine go_getf dRef_reduce_48 qf_Ref_77 hR2.1 rfl ?_
      refine go_top (y := nI (lsM (lsC (lsA α.1.2))).1.2.2.1) (by exact rfl) ?_
      refine go_iload_n dRef_reduce_51 rfl ?_
      refine go_icmp_eq (tgt := 59) dRef_reduce_52 (fun c4 => ?_) (fun c4 => ?_)
      · refine go_bipush (v := 10) dRef_reduce_59 (by decide) ?_
        refine go_aload_n dRef_reduce_61 rfl ?_
        refine go_getf dRef_reduce_62 qf_Ref_80 hR2.1 rfl ?_
        refine go_top (y := nI (lsM (lsC (lsA α.1.2))).1.2.2.2) (by exact rfl) ?_
        refine go_imul dRef_reduce_65 ?_
        refine go_aload_n dRef_reduce_66 rfl ?_
        refine go_getf dRef_reduce_67 qf_Ref_77 hR2.1 rfl ?_
        refine go_top (y := nI (lsM (lsC (lsA α.1.2))).1.2.2.1) (by exact rfl) ?_
        refine go_iadd dRef_reduce_70 ?_
        refine go_iret dRef_reduce_71 rfl rfl ?_ (Nat.le_of_ble_eq_true rfl) (Nat.le_of_ble_eq_true rfl)
        have eq : lsAll α.1.2 = (lsM (lsC (lsA α.1.2))) := by rw [lsAll, lsF, if_pos ⟨(nI_inj (by omega) (by omega)).mp c3, (nI_inj (by omega) (by omega)).mp c4⟩]
        exact retR_ok (β := ((α.1.1, (lsM (lsC (lsA α.1.2)))), α.2)) (by rw [reF, if_neg (fun q => q t1), eq]) hR2 ⟨RO_of ho hd h3 hsa ho.2.2.2, hr.2.1, hr.2.2.1, hr.2.2.2⟩ rfl s2
      · refine go_aload_n dRef_reduce_55 rfl ?_
        refine go_virtX dRef_reduce_56 ok_mRef_change im_mRef_change se_mRef_change qm_Ref_97 hR2.1 (r_change (g := (upd (upd (upd g 0 0) 5 (nI (lsM (lsC (lsA α.1.2))).1.2.2.2)) 4 (nI (lsM (lsC (lsA α.1.2))).1.2.2.1))) (A := (uA A 0 f)) (e := (lsM (lsC (lsA α.1.2))).2.2.2.2) (by rw [h3.2.2]; exact ho.2.2.2.1) (by rw [h3.2.2]; exact hx6) (by rw [h3.2.2]; exact ho.2.2.2.2) (by rw [h3.2.2]; exact fun k hk => (hv.1.2.2.1.2 k hk).1) hR2) (fun hx5 d5 q5 => ?_) (hnp := np_mRef_change)
        obtain ⟨⟨fl, fs, fb, hR5, hE9⟩, t5⟩ := q5
        have s5 := s2.trans t5
        refine go_bipush (v := 10) dRef_reduce_59 (by decide) ?_
        refine go_aload_n dRef_reduce_61 rfl ?_
        refine go_getf dRef_reduce_62 qf_Ref_80 hR5.1 rfl ?_
        refine go_top (y := nI (lsM (lsC (lsA α.1.2))).1.2.2.2) (by exact rfl) ?_
        refine go_imul dRef_reduce_65 ?_
        refine go_aload_n dRef_reduce_66 rfl ?_
        refine go_getf dRef_reduce_67 qf_Ref_77 hR5.1 rfl ?_
        refine go_top (y := nI (lsM (lsC (lsA α.1.2))).1.2.2.1) (by exact rfl) ?_
        refine go_iadd dRef_reduce_70 ?_
        refine go_iret dRef_reduce_71 rfl rfl ?_ (Nat.le_of_ble_eq_true rfl) (Nat.le_of_ble_eq_true rfl)
        have eq : lsAll α.1.2 = piSafe (lsM (lsC (lsA α.1.2))) := by rw [lsAll, lsF, if_neg (fun q => c4 (by rw [q.2]))]
        exact retR_ok (β := ((α.1.1, piSafe (lsM (lsC (lsA α.1.2)))), α.2)) (by rw [reF, if_neg (fun q => q t1), eq]; rfl) hR5 ⟨RO_sf ho hd h3 hsa hE9, hr.2.1, hr.2.2.1, hr.2.2.2⟩ rfl s5
