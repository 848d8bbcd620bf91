/-! HOW A STATE OF THE SMALL MACHINE LIES IN A HEAP: cell i + 2 at base + i -/
def trA (base b0 t0 a : Nat) : Nat := match a with
  | 0 => b0
  | 1 => t0
  | i + 2 => base + i
def trV (base b0 t0 : Nat) (v : Value) : Value := match v with
  | .ref a => .ref (trA base b0 t0 a)
  | v => v
def tysL (cA : Nat → ClassId) : List (ClassId × FieldType) := [(cA 20, .int), (cA 21, .long), (cA 22, .short), (cA 23, .byte), (cA 24, .boolean)]
/-- what an array's places hold -/
def aV (h : MH) (a : Nat) : Nat → Value := fun j => if kd h a = 21 then .long (gL h a j) else .int (gI h a j)
def fV (base b0 t0 : Nat) (h : MH) (a : Nat) : Nat → Value := fun k => trV base b0 t0 (rdF h a (100 * kd h a + k))
def cAt (D : va_G) (cA : Nat → ClassId) (base b0 t0 : Nat) (h : MH) (i : Nat) (H : Heap) : Prop :=
  (kd h (i + 2) < 13 ∧ t_OB (base + i) (D.1 (kd h (i + 2))) (vT (kd h (i + 2))).2.2 (D.2 (kd h (i + 2))) H (fV base b0 t0 h (i + 2))) ∨
  (20 ≤ kd h (i + 2) ∧ kd h (i + 2) ≤ 24 ∧ H[base + i]? = some (arrV (cA (kd h (i + 2))) (ln h (i + 2)) (aV h (i + 2))))
def Rl (D : va_G) (cA : Nat → ClassId) (base b0 t0 : Nat) (h : MH) (H : Heap) : Prop :=
  2 ≤ h.1.length ∧ H.size + 2 = base + h.1.length ∧ ∀ i, i + 2 < h.1.length → cAt D cA base b0 t0 h i H
def Aq (base : Nat) : Nat → Prop := fun q => base ≤ q
def Exx (base b0 t0 : Nat) (h : MH) (s : State) (H : Heap) : Prop :=
  kd h 0 = 20 ∧ kd h 1 = 21 ∧ b0 < base ∧ va_X b0 (ln h 0) (gI h 0) s H ∧ va_Z "GraftedLaws$Reader" "RESERVED" "[J" (.ref t0) (Aq base) s H ∧ va_T .long t0 (ln h 1) (fun j => .long (gL h 1 j)) (Aq base) s H
def Nst (s : State) : Prop := ∀ r ∈ cM, va_Nw (Cond.methodLinkNest (cN r.1) r.2.1 (mY r.2.2) "GraftedLaws") s
def Wd (D : va_G) (cA : Nat → ClassId) (base b0 t0 : Nat) (h : MH) (s : State) (H : Heap) : Prop :=
  va_K D vwCl (tysL cA) s ∧ Rl D cA base b0 t0 h H ∧ Exx base b0 t0 h s H ∧ Nst s
theorem gI_sI (h : MH) (a k x y : Nat) (v : Int32) : gI (sI h a k v) x y = if x = a ∧ y = k then v else gI h x y := rfl
theorem gL_sL (h : MH) (a k x y : Nat) (v : Int64) : gL (sL h a k v) x y = if x = a ∧ y = k then v else gL h x y := rfl
theorem gR_sR (h : MH) (a k x y : Nat) (v : Value) : gR (sR h a k v) x y = if x = a ∧ y = k then v else gR h x y := rfl
section REL
variable {D : va_G} {cA : Nat → ClassId} {base b0 t0 : Nat} {h h' : MH} {s : State} {H H' : Heap}
theorem rdF_eq {a f : Nat} (hI : ∀ k, gI h' a k = gI h a k) (hL : ∀ k, gL h' a k = gL h a k) (hR : ∀ k, gR h' a k = gR h a k) : rdF h' a f = rdF h a f := by
  unfold rdF
  split
  · rw [hL]
  · rw [hR]
  · rw [hI]
theorem cAt.kept {i : Nat} (hc : cAt D cA base b0 t0 h i H) (hs : h'.1.getD (i + 2) (99, 0) = h.1.getD (i + 2) (99, 0)) (hI : ∀ k, gI h' (i + 2) k = gI h (i + 2) k) (hL : ∀ k, gL h' (i + 2) k = gL h (i + 2) k) (hR : ∀ k, gR h' (i + 2) k = gR h (i + 2) k) (hH : H'[base + i]? = H[base + i]?) : cAt D cA base b0 t0 h' i H' := by
  have hk : kd h' (i + 2) = kd h (i + 2) := by unfold kd; rw [hs]
  have hn : ln h' (i + 2) = ln h (i + 2) := by unfold ln; rw [hs]
  have e1 : fV base b0 t0 h' (i + 2) = fV base b0 t0 h (i + 2) := by
    funext k
    unfold fV
    rw [hk, rdF_eq hI hL hR]
  have e2 : aV h' (i + 2) = aV h (i + 2) := by
    funext k
    unfold aV
    rw [hk, hI, hL]
  unfold cAt
  rw [hk, hn, e1, e2, hH]
  rcases hc with ⟨h1, h2⟩ | h1
  · exact Or.inl ⟨h1, h2.kept hH⟩
  · exact Or.inr h1
theorem Rl.upd (hR : Rl D cA base b0 t0 h H) (j : Nat) (hs : h'.1 = h.1) (hI : ∀ x, x ≠ j + 2 → ∀ k, gI h' x k = gI h x k) (hL : ∀ x, x ≠ j + 2 → ∀ k, gL h' x k = gL h x k) (hQ : ∀ x, x ≠ j + 2 → ∀ k, gR h' x k = gR h x k)
    (hz : H'.size = H.size) (ho : ∀ q, q ≠ base + j → H'[q]? = H[q]?) (hc : cAt D cA base b0 t0 h' j H') : Rl D cA base b0 t0 h' H' := by
  obtain ⟨h1, h2, h3⟩ := hR
  refine ⟨by rw [hs]; exact h1, by rw [hs, hz]; exact h2, fun i hi => ?_⟩
  by_cases e : i = j
  · subst e; exact hc
  · exact (h3 i (by rw [← hs]; exact hi)).kept (by rw [hs]) (hI _ (by omega)) (hL _ (by omega)) (hQ _ (by omega)) (ho _ (by omega))
theorem Exx.kept (hE : Exx base b0 t0 h s H) (hb : base ≤ H.size) (h0 : h'.1.getD 0 (99, 0) = h.1.getD 0 (99, 0)) (h1 : h'.1.getD 1 (99, 0) = h.1.getD 1 (99, 0)) (hI : ∀ k, gI h' 0 k = gI h 0 k) (hL : ∀ k, gL h' 1 k = gL h 1 k) (ho : ∀ q, q < base → H'[q]? = H[q]?) : Exx base b0 t0 h' s H' := by
  obtain ⟨e1, e2, e3, e4, e5, e6⟩ := hE
  have k0 : kd h' 0 = kd h 0 := by unfold kd; rw [h0]
  have k1 : kd h' 1 = kd h 1 := by unfold kd; rw [h1]
  have n0 : ln h' 0 = ln h 0 := by unfold ln; rw [h0]
  have n1 : ln h' 1 = ln h 1 := by unfold ln; rw [h1]
  have f0 : gI h' 0 = gI h 0 := funext hI
  have f1 : (fun j => Value.long (gL h' 1 j)) = fun j => Value.long (gL h 1 j) := funext fun j => by rw [hL]
  have hq : ∀ a : Nat, a < H.size → ¬ Aq base a → H'[a]? = H[a]? := fun a _ hA => ho a (Nat.lt_of_not_le hA)
  refine ⟨k0.trans e1, k1.trans e2, e3, ?_, e5.kept hq, ?_⟩
  · rw [n0, f0]
    obtain ⟨scr, q1, q2⟩ := e4
    exact ⟨scr, by rw [ho b0 e3]; exact q1, q2⟩
  · rw [n1, f1]
    exact e6.kept hq
theorem Wd.upd (hW : Wd D cA base b0 t0 h s H) (j : Nat) (hs : h'.1 = h.1) (hI : ∀ x, x ≠ j + 2 → ∀ k, gI h' x k = gI h x k) (hL : ∀ x, x ≠ j + 2 → ∀ k, gL h' x k = gL h x k) (hQ : ∀ x, x ≠ j + 2 → ∀ k, gR h' x k = gR h x k)
    (hz : H'.size = H.size) (ho : ∀ q, q ≠ base + j → H'[q]? = H[q]?) (hc : cAt D cA base b0 t0 h' j H') : Wd D cA base b0 t0 h' s H' := by
  obtain ⟨w1, w2, w3, w4⟩ := hW
  have hb : base ≤ H.size := by obtain ⟨a, b, -⟩ := w2; omega
  exact ⟨w1, w2.upd j hs hI hL hQ hz ho hc, w3.kept hb (by rw [hs]) (by rw [hs]) (hI 0 (by omega)) (hL 1 (by omega)) (fun q hq => ho q (by omega)), w4⟩
theorem getD_app_l {α : Type} {l : List α} {x d : α} {i : Nat} (hi : i < l.length) : (l ++ [x]).getD i d = l.getD i d := by
  rw [List.getD_eq_getElem?_getD, List.getD_eq_getElem?_getD, List.getElem?_append_left hi]
theorem getD_app_r {α : Type} {l : List α} {x d : α} : (l ++ [x]).getD l.length d = x := by
  rw [List.getD_eq_getElem?_getD, List.getElem?_append_right (Nat.le_refl _)]
  simp
/-- a new cell -/
theorem Wd.push (hW : Wd D cA base b0 t0 h s H) (t n : Nat) (hz : H'.size = H.size + 1) (ho : ∀ q, q < H.size → H'[q]? = H[q]?) (hc : cAt D cA base b0 t0 (nC h t n) (h.1.length - 2) H') : Wd D cA base b0 t0 (nC h t n) s H' := by
  obtain ⟨w1, ⟨r1, r2, r3⟩, w3, w4⟩ := hW
  have hlen : (nC h t n).1.length = h.1.length + 1 := by simp [nC]
  have hgd : ∀ i, i < h.1.length → (nC h t n).1.getD i (99, 0) = h.1.getD i (99, 0) := fun i hi => getD_app_l hi
  have hgI : ∀ x, x ≠ h.1.length → ∀ k, gI (nC h t n) x k = gI h x k := fun x hx k => if_neg hx
  have hgL : ∀ x, x ≠ h.1.length → ∀ k, gL (nC h t n) x k = gL h x k := fun x hx k => if_neg hx
  have hgR : ∀ x, x ≠ h.1.length → ∀ k, gR (nC h t n) x k = gR h x k := fun x hx k => if_neg hx
  refine ⟨w1, ⟨by omega, by omega, fun i hi => ?_⟩, w3.kept (by omega) (hgd 0 (by omega)) (hgd 1 (by omega)) (hgI 0 (by omega)) (hgL 1 (by omega)) (fun q hq => ho q (by omega)), w4⟩
  by_cases e : i + 2 = h.1.length
  · have e2 : i = h.1.length - 2 := by omega
    rw [e2]; exact hc
  · exact (r3 i (by omega)).kept (hgd _ (by omega)) (hgI _ (by omega)) (hgL _ (by omega)) (hgR _ (by omega)) (ho _ (by omega))
theorem kd_lt {a : Nat} (hk : kd h a < 99) : a < h.1.length := by
  rcases Nat.lt_or_ge a h.1.length with q | q
  · exact q
  · exfalso
    unfold kd at hk
    rw [List.getD_eq_getElem?_getD, List.getElem?_eq_none q] at hk
    exact absurd hk (by decide)
/-- the kinds of array, their classes -/
theorem tys_at (t : Nat) (h1 : 20 ≤ t) (h2 : t ≤ 24) : ∃ (i : Nat) (ty : FieldType), (tysL cA)[i]? = some (cA t, ty) ∧ (t = 20 → ty = .int) ∧ (t = 21 → ty = .long) ∧ (t = 22 → ty = .short) ∧ (t = 23 → ty = .byte) ∧ (t = 24 → ty = .boolean) := by
  rcases (show t = 20 ∨ t = 21 ∨ t = 22 ∨ t = 23 ∨ t = 24 by omega) with rfl | rfl | rfl | rfl | rfl
  · exact ⟨0, .int, rfl, by decide⟩
  · exact ⟨1, .long, rfl, by decide⟩
  · exact ⟨2, .short, rfl, by decide⟩
  · exact ⟨3, .byte, rfl, by decide⟩
  · exact ⟨4, .boolean, rfl, by decide⟩
end REL
