/-! ===== A SHALLOW PURE LAYER: a map of known cells instead of the heap; Go: the machine at a point of a method, for every heap that has the map ===== -/
abbrev pmC : Type := (Nat × (Nat → Int32)) ⊕ (Nat × (Nat → Int32)) ⊕ (Nat × (Nat → Int64)) ⊕ (Nat × (Nat → Int32)) ⊕ (Nat × List Value)
/-- an int array that may be written; an int array that may only be read; a long array; a boolean array; an object by its class's number -/
abbrev pmI (n : Nat) (f : Nat → Int32) : pmC := .inl (n, f)
abbrev pmT (n : Nat) (f : Nat → Int32) : pmC := .inr (.inl (n, f))
abbrev pmJ (n : Nat) (f : Nat → Int64) : pmC := .inr (.inr (.inl (n, f)))
abbrev pmB (n : Nat) (f : Nat → Int32) : pmC := .inr (.inr (.inr (.inl (n, f))))
abbrev pmO (ci : Nat) (fs : List Value) : pmC := .inr (.inr (.inr (.inr (ci, fs))))
abbrev pmH : Type := Nat → Option pmC
def pmU (h : pmH) (a : Nat) (c : pmC) : pmH := fun q => if q = a then some c else h q
theorem pmU_s (h : pmH) (a : Nat) (c : pmC) : pmU h a c a = some c := by simp [pmU]
theorem pmU_n (h : pmH) {a q : Nat} (c : pmC) (hq : q ≠ a) : pmU h a c q = h q := by simp [pmU, hq]
/-- the map; the heap's size where it is known; whether anything was made or written since the method began -/
abbrev pmS : Type := pmH × Option Nat × Bool
/-- an answer, or the number of an exception's class -/
abbrev pmA : Type := Option Value ⊕ Nat
abbrev pmL : Type := List (Option Value)
/-- what the world is fixed by: the launch; the first address that may be written; the classes' numbers and slots; the classes of int, long, boolean arrays; the static arrays' addresses -/
abbrev pmEv : Type := Launch × Nat × va_G × (ClassId × ClassId × ClassId) × (Nat → Nat)
abbrev pmA0 (E : pmEv) : Nat → Prop := fun q => E.2.1 ≤ q
abbrev pmTs (E : pmEv) : List (ClassId × FieldType) := [(E.2.2.2.1.1, .int), (E.2.2.2.1.2.1, .long), (E.2.2.2.1.2.2, .boolean)]
def pmCe (E : pmEv) (U : State) (H : Heap) (a : Nat) (c : pmC) : Prop := match c with
  | .inl q => E.2.1 ≤ a ∧ H[a]? = some (arrV E.2.2.2.1.1 q.1 (fun j => .int (q.2 j)))
  | .inr (.inl q) => va_T .int a q.1 (fun j => .int (q.2 j)) (pmA0 E) U H
  | .inr (.inr (.inl q)) => E.2.1 ≤ a ∧ H[a]? = some (arrV E.2.2.2.1.2.1 q.1 (fun j => .long (q.2 j)))
  | .inr (.inr (.inr (.inl q))) => E.2.1 ≤ a ∧ H[a]? = some (arrV E.2.2.2.1.2.2 q.1 (fun j => .int (q.2 j)))
  | .inr (.inr (.inr (.inr q))) => E.2.1 ≤ a ∧ ∃ r : vw_C, pmCl[q.1]? = some r ∧ q.2.length = r.2.2 ∧ t_OB a (E.2.2.1.1 q.1) r.2.2 (E.2.2.1.2 q.1) H (vp_V q.2)
def pmHI (E : pmEv) (U : State) (h : pmH) (H : Heap) : Prop := ∀ (a : Nat) (c : pmC), h a = some c → pmCe E U H a c
theorem pmCe.lt {E : pmEv} {U : State} {H : Heap} {a : Nat} {c : pmC} (h : pmCe E U H a c) : a < H.size := by
  match c, h with
  | .inl q, h => exact (Array.getElem?_eq_some_iff.mp h.2).1
  | .inr (.inl q), h => obtain ⟨cell, h1, -⟩ := h; exact (Array.getElem?_eq_some_iff.mp h1).1
  | .inr (.inr (.inl q)), h => exact (Array.getElem?_eq_some_iff.mp h.2).1
  | .inr (.inr (.inr (.inl q))), h => exact (Array.getElem?_eq_some_iff.mp h.2).1
  | .inr (.inr (.inr (.inr q))), h => obtain ⟨-, r, -, -, cell, h1, -⟩ := h; exact (Array.getElem?_eq_some_iff.mp h1).1
theorem pmCe.kept {E : pmEv} {U : State} {H H1 : Heap} {a : Nat} {c : pmC} (h : pmCe E U H a c) (hq : H1[a]? = H[a]?) : pmCe E U H1 a c := by
  match c, h with
  | .inl q, h => exact ⟨h.1, by rw [hq]; exact h.2⟩
  | .inr (.inl q), h => obtain ⟨cell, h1, h2⟩ := h; exact ⟨cell, by rw [hq]; exact h1, h2⟩
  | .inr (.inr (.inl q)), h => exact ⟨h.1, by rw [hq]; exact h.2⟩
  | .inr (.inr (.inr (.inl q))), h => exact ⟨h.1, by rw [hq]; exact h.2⟩
  | .inr (.inr (.inr (.inr q))), h => obtain ⟨h0, r, h1, h2, h3⟩ := h; exact ⟨h0, r, h1, h2, t_OB.kept h3 hq⟩
theorem pmCe.moved {E : pmEv} {u U : State} {H : Heap} {a : Nat} {c : pmC} (hvm : u.vm.Alike U.vm) (h : pmCe E u H a c) : pmCe E U H a c := by
  match c, h with
  | .inl q, h => exact h
  | .inr (.inl q), h => exact va_T.moved hvm h
  | .inr (.inr (.inl q)), h => exact h
  | .inr (.inr (.inr (.inl q))), h => exact h
  | .inr (.inr (.inr (.inr q))), h => exact h
theorem pmHI.moved {E : pmEv} {u U : State} {h : pmH} {H : Heap} (hvm : u.vm.Alike U.vm) (hh : pmHI E u h H) : pmHI E U h H := fun a c ha => (hh a c ha).moved hvm
/-- one cell is written -/
theorem pmHI.put {E : pmEv} {U : State} {h : pmH} {H H1 : Heap} {a : Nat} {c : pmC} (hh : pmHI E U h H) (hc : pmCe E U H1 a c) (ho : ∀ q : Nat, q ≠ a → H1[q]? = H[q]?) : pmHI E U (pmU h a c) H1 := by
  intro q d hd
  by_cases e : q = a
  · subst e
    rw [pmU_s] at hd
    cases hd
    exact hc
  · rw [pmU_n h c e] at hd
    exact (hh q d hd).kept (ho q e)
/-- one cell is made -/
theorem pmHI.new {E : pmEv} {U : State} {h : pmH} {H H1 : Heap} {c : pmC} (hh : pmHI E U h H) (hc : pmCe E U H1 H.size c) (ho : ∀ q : Nat, q < H.size → H1[q]? = H[q]?) : pmHI E U (pmU h H.size c) H1 := by
  intro q d hd
  by_cases e : q = H.size
  · subst e
    rw [pmU_s] at hd
    cases hd
    exact hc
  · rw [pmU_n h c e] at hd
    exact (hh q d hd).kept (ho q (hh q d hd).lt)
/-! the words that every method has: those of the tables that last -/
def pmW : List Cond := lw_tbl.filter goodWord
theorem pmW_in {w : Cond} (h : w ∈ lw_tbl) (hg : goodWord w = true) : w ∈ pmW := List.mem_filter.mpr ⟨h, hg⟩
theorem pmW_tb {i : Nat} {w : Cond} (h : tables_1[i]? = some w) (hg : goodWord w = true) : w ∈ pmW := pmW_in (List.mem_append_right _ (List.mem_of_getElem? h)) hg
theorem pmW_good : GoodIn lw_tbl pmW := fun w h => ⟨(List.mem_filter.mp h).1, good_of_word (List.mem_filter.mp h).2⟩
theorem pmW_self : GoodIn pmW pmW := fun w h => ⟨h, good_of_word (List.mem_filter.mp h).2⟩
/-! what is known of the tables and of the statics, at a state -/
def pmNest : List Cond := [.methodLinkNest "PortableFiles" 9 ⟨"PortableFiles$Picture", "<init>", "()V"⟩ "PortableFiles", .methodLinkNest "PortableFiles$Picture" 11 ⟨"PortableFiles$Palette", "<init>", "()V"⟩ "PortableFiles", .methodLinkNest "PortableFiles$Picture" 20 ⟨"PortableFiles$Tags", "<init>", "()V"⟩ "PortableFiles", .methodLinkNest "PortableFiles$Picture" 27 ⟨"PortableFiles$Extras", "<init>", "()V"⟩ "PortableFiles", .methodLinkNest "PortableFiles" 18 ⟨"PortableFiles$Writing", "<init>", "()V"⟩ "PortableFiles", .methodLinkNest "PortableFiles" 25 ⟨"PortableFiles$Reading", "<init>", "()V"⟩ "PortableFiles", .methodLinkNest "PortableFiles$Reading" 22 ⟨"PortableFiles$Picture", "<init>", "()V"⟩ "PortableFiles"]
