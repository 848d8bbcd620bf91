/-! numbers -/
theorem nI_lit (n : Nat) : (OfNat.ofNat n : Int32) = nI n := rfl
theorem le_nI {a b : Nat} (ha : a < 2147483648) (hb : b < 2147483648) : (nI a ≤ nI b) = (a ≤ b) := propext (nI_leI ha hb)
theorem lt_nI {a b : Nat} (ha : a < 2147483648) (hb : b < 2147483648) : (nI a < nI b) = (a < b) := propext (nI_ltI ha hb)
theorem eq_nI {a b : Nat} (ha : a < 2147483648) (hb : b < 2147483648) : (nI a = nI b) = (a = b) := propext (nI_eq ha hb)
theorem tc_nI {a : Nat} (ha : a < 2147483648) : (nI a).toNatClampNeg = a := nI_clamp ha
theorem inBd_nI {a n : Nat} (ha : a < 2147483648) (hn : a < n) : inBd (nI a) n = true := by
  unfold inBd
  refine decide_eq_true ?_
  rintro (q | q)
  · exact nI_pos ha q
  · rw [tc_nI ha] at q; omega
theorem nI_nneg {a : Nat} (ha : a < 2147483648) : (nI a < 0) = False := eq_false (nI_pos ha)
theorem i88 (x : Int32) : x.toInt8.toInt32.toInt8 = x.toInt8 := by simp
/-! what a run leaves as it was -/
abbrev WL : Type := List (Nat × Option Nat)
def wr1 (q : Nat × Option Nat) (a k : Nat) : Bool := q.1 == a && (match q.2 with
  | none => true
  | some j => j == k)
def wr (l : WL) (a k : Nat) : Bool := l.any (fun q => wr1 q a k)
def Sm (h h' : MH) (l : WL) : Prop := h'.1 = h.1 ∧ ∀ a k, wr l a k = false → gI h' a k = gI h a k ∧ gL h' a k = gL h a k ∧ gR h' a k = gR h a k
theorem Sm.rf (h : MH) (l : WL) : Sm h h l := ⟨rfl, fun _ _ _ => ⟨rfl, rfl, rfl⟩⟩
theorem Sm.trans {h h1 h2 : MH} {l : WL} (a : Sm h h1 l) (b : Sm h1 h2 l) : Sm h h2 l := ⟨b.1.trans a.1, fun x k q => ⟨(b.2 x k q).1.trans (a.2 x k q).1, (b.2 x k q).2.1.trans (a.2 x k q).2.1, (b.2 x k q).2.2.trans (a.2 x k q).2.2⟩⟩
theorem wr_mono {l l' : WL} (hl : ∀ q ∈ l, q ∈ l') {a k : Nat} (h : wr l' a k = false) : wr l a k = false := by
  unfold wr at h ⊢
  rw [List.any_eq_false] at h ⊢
  exact fun q hq => h q (hl q hq)
theorem Sm.mono {h h' : MH} {l l' : WL} (a : Sm h h' l) (hl : ∀ q ∈ l, q ∈ l') : Sm h h' l' := ⟨a.1, fun x k q => a.2 x k (wr_mono hl q)⟩
theorem Sm.sI {h h' : MH} {l : WL} {a k : Nat} {v : Int32} (s : Sm h h' l) (hw : wr l a k = true) : Sm h (sI h' a k v) l := by
  refine ⟨s.1, fun x y q => ?_⟩
  obtain ⟨q1, q2, q3⟩ := s.2 x y q
  refine ⟨?_, q2, q3⟩
  rw [gI_sI, if_neg, q1]
  rintro ⟨rfl, rfl⟩
  rw [hw] at q; cases q
theorem Sm.sL {h h' : MH} {l : WL} {a k : Nat} {v : Int64} (s : Sm h h' l) (hw : wr l a k = true) : Sm h (sL h' a k v) l := by
  refine ⟨s.1, fun x y q => ?_⟩
  obtain ⟨q1, q2, q3⟩ := s.2 x y q
  refine ⟨q1, ?_, q3⟩
  rw [gL_sL, if_neg, q2]
  rintro ⟨rfl, rfl⟩
  rw [hw] at q; cases q
theorem Sm.sR {h h' : MH} {l : WL} {a k : Nat} {v : Value} (s : Sm h h' l) (hw : wr l a k = true) : Sm h (sR h' a k v) l := by
  refine ⟨s.1, fun x y q => ?_⟩
  obtain ⟨q1, q2, q3⟩ := s.2 x y q
  refine ⟨q1, q2, ?_⟩
  rw [gR_sR, if_neg, q3]
  rintro ⟨rfl, rfl⟩
  rw [hw] at q; cases q
theorem Sm.I {h h' : MH} {l : WL} (s : Sm h h' l) {a k : Nat} (hw : wr l a k = false) : gI h' a k = gI h a k := (s.2 a k hw).1
theorem Sm.L {h h' : MH} {l : WL} (s : Sm h h' l) {a k : Nat} (hw : wr l a k = false) : gL h' a k = gL h a k := (s.2 a k hw).2.1
theorem Sm.R {h h' : MH} {l : WL} (s : Sm h h' l) {a k : Nat} (hw : wr l a k = false) : gR h' a k = gR h a k := (s.2 a k hw).2.2
theorem Sm.St {h h' : MH} {l : WL} (s : Sm h h' l) (hS : St h) (hw : RTB.all (fun q => !wr l q.1 q.2.1) = true) : St h' := by
  refine ⟨?_, fun q hq => ?_⟩
  · obtain ⟨L, ext, e⟩ := hS.1
    exact ⟨L, ext, s.1.trans e⟩
  · rw [s.R (by have := List.all_eq_true.mp hw q hq; simpa using this)]
    exact hS.2 q hq
theorem Sm_kd {h h' : MH} {l : WL} (s : Sm h h' l) (a : Nat) : kd h' a = kd h a := by unfold kd; rw [s.1]
theorem Sm_ln {h h' : MH} {l : WL} (s : Sm h h' l) (a : Nat) : ln h' a = ln h a := by unfold ln; rw [s.1]
