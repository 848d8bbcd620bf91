/-! both in step: class's heap h, reference's heap k -/
def FzC (o : Nat) (h0 h : MH) : Prop := h.1 = h0.1 ∧ ∀ a j, ¬ (o ≤ a ∧ a ≤ o + 19) → ¬ (a = 43 ∧ 2 ≤ j) → ¬ a = 45 → gI h a j = gI h0 a j ∧ gL h a j = gL h0 a j ∧ gR h a j = gR h0 a j
def M71 (k : MH) : Prop := ∀ i, i < 13 → N71 i k
def FzM (k0 k : MH) : Prop := ((k.1 = k0.1 ∧ gI k 66 1 = 0) ∧ (M71 k0 → M71 k)) ∧ ∀ a j, ¬ (a = 66 ∧ j ≤ 49 ∧ ¬ j = 22) → ¬ (68 ≤ a ∧ a ≤ 71) → ¬ a = 75 → ¬ (77 ≤ a ∧ a ≤ 83) → gI k a j = gI k0 a j ∧ gL k a j = gL k0 a j ∧ gR k a j = gR k0 a j
theorem FzC.sm {o : Nat} {h0 h h' : MH} {l : WL} (f : FzC o h0 h) (s : Sm h h' l) (hl : ∀ a j, wr l a j = true → (o ≤ a ∧ a ≤ o + 19) ∨ (a = 43 ∧ 2 ≤ j) ∨ a = 45) : FzC o h0 h' := by
  refine ⟨s.1.trans f.1, fun a j h1 h2 h3 => ?_⟩
  have w : wr l a j = false := by
    cases c : wr l a j with
    | false => rfl
    | true => rcases hl a j c with z | z | z <;> contradiction
  have a1 := s.2 a j w
  have a2 := f.2 a j h1 h2 h3
  exact ⟨a1.1.trans a2.1, a1.2.1.trans a2.2.1, a1.2.2.trans a2.2.2⟩
theorem FzM.sm {k0 k k' : MH} {l : WL} (f : FzM k0 k) (s : Sm k k' l) (hl : ∀ a j, wr l a j = true → (a = 66 ∧ j ≤ 49 ∧ ¬ j = 22 ∧ ¬ j = 1) ∨ (68 ≤ a ∧ a ≤ 70) ∨ a = 75 ∨ (77 ≤ a ∧ a ≤ 83)) : FzM k0 k' := by
  refine ⟨⟨⟨s.1.trans f.1.1.1, ?_⟩, fun z i hi => ?_⟩, fun a j h1 h2 h3 h4 => ?_⟩
  · rw [s.I ?_]
    · exact f.1.1.2
    · cases c : wr l 66 1 with
      | false => rfl
      | true => have := hl 66 1 c; omega
  · obtain ⟨n, n1, n2⟩ := f.1.2 z i hi
    refine ⟨n, n1, ?_⟩
    rw [s.I ?_]
    · exact n2
    · cases c : wr l 71 i with
      | false => rfl
      | true => have := hl 71 i c; omega
  · have w : wr l a j = false := by
      cases c : wr l a j with
      | false => rfl
      | true => have := hl a j c; omega
    have a1 := s.2 a j w
    have a2 := f.2 a j h1 h2 h3 h4
    exact ⟨a1.1.trans a2.1, a1.2.1.trans a2.2.1, a1.2.2.trans a2.2.2⟩
theorem wS_no {y j : Nat} (h1 : ¬ y = 43) (h2 : ¬ y = 45) : wr WS y j = false := by
  unfold WS wr wr1
  simp only [List.any_cons, List.any_nil, show (43 == y) = false by simpa using fun z : 43 = y => h1 z.symm, show (45 == y) = false by simpa using fun z : 45 = y => h2 z.symm, Bool.false_and, Bool.or_self]
theorem WS_C {o : Nat} (a j : Nat) (h : wr WS a j = true) : (o ≤ a ∧ a ≤ o + 19) ∨ (a = 43 ∧ 2 ≤ j) ∨ a = 45 := by
  unfold WS wr wr1 at h
  simp only [List.any_cons, List.any_nil, Bool.or_eq_true, Bool.and_eq_true, beq_iff_eq, Bool.false_eq_true, or_false] at h
  omega
theorem WT_M {n : Nat} (a j : Nat) (h : wr ((68, some n) :: WT) a j = true) : (a = 66 ∧ j ≤ 49 ∧ ¬ j = 22 ∧ ¬ j = 1) ∨ (68 ≤ a ∧ a ≤ 70) ∨ a = 75 ∨ (77 ≤ a ∧ a ≤ 83) := by
  unfold WT wr wr1 at h
  simp only [List.any_cons, List.any_nil, Bool.or_eq_true, Bool.and_eq_true, beq_iff_eq, Bool.false_eq_true, or_false] at h
  omega
/-! what was told -/
def D1 (o : Nat) (T : List Int64) (h k : MH) : Prop := ∀ t, t < T.length → ∃ s, 2 ≤ s ∧ s ≤ 4 ∧ gI h (o + 3) t = nI s ∧ gI k 77 t = nI s
def D2 (o : Nat) (R : List Int64) (h k : MH) : Prop := ∀ t, t < R.length → gI h (o + 6) t = gI k 78 t
def D3 (o nc : Nat) (R : List Int64) (h k : MH) : Prop := ∀ c, c < nc → (∃ t, t < R.length ∧ gI h (o + 10) c = nI t ∧ gI k 79 c = nI t) ∧ (∃ v, v ≤ 99 ∧ gI h (o + 11) c = nI v ∧ gI k 80 c = nI v) ∧ (∃ n, n < 2 ^ nc ∧ gI h (o + 12) c = nI n ∧ gI k 81 c = nI n) ∧ (∃ n, n < 2 ^ nc ∧ gI h (o + 13) c = nI n ∧ gI k 82 c = nI n) ∧ (∃ n, n < 2 ^ nc ∧ gI k 83 c = nI n)
def D4 (o nc : Nat) (h k : MH) : Prop := (∀ c, nc ≤ c → c < 12 → gI h (o + 12) c = 0 ∧ gI h (o + 13) c = 0) ∧ ∀ c, c < 12 → ∃ n, n < 2 ^ nc ∧ gI h (o + 14) c = nI n ∧ ∀ y, y < nc → tbt (nI n) y = tbt (gI k 83 y) c
def D5 (o nc : Nat) (h : MH) : Prop := ∀ t, t < 3 → ∃ m, m < 2 ^ nc ∧ gI h (o + 7) t = nI m ∧ ∀ c, c < nc → (m.testBit c = true ↔ gI h (o + 10) c = nI t)
def D6 (o nc : Nat) (h k : MH) : Prop := (∃ n, n < 2 ^ nc ∧ gI h o 12 = nI n ∧ gI k 66 44 = nI n) ∧ (∃ n, n < 2 ^ nc ∧ gI h o 13 = nI n ∧ gI k 66 45 = nI n) ∧ (∃ n, n ≤ 30 ∧ gI h o 14 = nI n ∧ gI k 66 43 = nI n) ∧ (∃ n, n ≤ 9 ∧ gI h o 15 = nI n ∧ gI k 66 46 = nI n) ∧ (∃ n, n ≤ 9 ∧ gI h o 16 = nI n ∧ gI k 66 47 = nI n) ∧ (∃ n, n ≤ 999 ∧ gI h o 17 = nI n ∧ gI k 66 48 = nI n)
theorem D1.eq {o : Nat} {T : List Int64} {h k h' k' : MH} (d : D1 o T h k) (e : ∀ j, gI h' (o + 3) j = gI h (o + 3) j) (e2 : ∀ j, gI k' 77 j = gI k 77 j) : D1 o T h' k' := fun t ht => by rw [e, e2]; exact d t ht
theorem D2.eq {o : Nat} {T : List Int64} {h k h' k' : MH} (d : D2 o T h k) (e : ∀ j, gI h' (o + 6) j = gI h (o + 6) j) (e2 : ∀ j, gI k' 78 j = gI k 78 j) : D2 o T h' k' := fun t ht => by rw [e, e2]; exact d t ht
theorem D3.eq {o nc : Nat} {T : List Int64} {h k h' k' : MH} (d : D3 o nc T h k) (e : ∀ y j, 10 ≤ y → y ≤ 13 → gI h' (o + y) j = gI h (o + y) j) (e2 : ∀ a j, 79 ≤ a → a ≤ 83 → gI k' a j = gI k a j) : D3 o nc T h' k' := fun t ht => by
  rw [e _ _ (by omega) (by omega), e _ _ (by omega) (by omega), e _ _ (by omega) (by omega), e _ _ (by omega) (by omega), e2 _ _ (by omega) (by omega), e2 _ _ (by omega) (by omega), e2 _ _ (by omega) (by omega), e2 _ _ (by omega) (by omega), e2 _ _ (by omega) (by omega)]
  exact d t ht
theorem D4.eq {o nc : Nat} {h k h' k' : MH} (d : D4 o nc h k) (e : ∀ y j, 12 ≤ y → y ≤ 14 → gI h' (o + y) j = gI h (o + y) j) (e2 : ∀ j, gI k' 83 j = gI k 83 j) : D4 o nc h' k' := ⟨fun c h1 h2 => by rw [e _ _ (by omega) (by omega), e _ _ (by omega) (by omega)]; exact d.1 c h1 h2, fun c hc => by
  obtain ⟨n, n1, n2, n3⟩ := d.2 c hc
  exact ⟨n, n1, by rw [e _ _ (by omega) (by omega)]; exact n2, fun y hy => by rw [e2]; exact n3 y hy⟩⟩
theorem D5.eq {o nc : Nat} {h h' : MH} (d : D5 o nc h) (e : ∀ j, gI h' (o + 7) j = gI h (o + 7) j) (e2 : ∀ j, gI h' (o + 10) j = gI h (o + 10) j) : D5 o nc h' := fun t ht => by
  obtain ⟨m, m1, m2, m3⟩ := d t ht
  exact ⟨m, m1, by rw [e]; exact m2, fun c hc => by rw [e2]; exact m3 c hc⟩
theorem D6.eq {o nc : Nat} {h k h' k' : MH} (d : D6 o nc h k) (e : ∀ j, 12 ≤ j → j ≤ 17 → gI h' o j = gI h o j) (e2 : ∀ j, 43 ≤ j → j ≤ 48 → gI k' 66 j = gI k 66 j) : D6 o nc h' k' := by
  unfold D6
  rw [e 12 (by omega) (by omega), e 13 (by omega) (by omega), e 14 (by omega) (by omega), e 15 (by omega) (by omega), e 16 (by omega) (by omega), e 17 (by omega) (by omega), e2 43 (by omega) (by omega), e2 44 (by omega) (by omega), e2 45 (by omega) (by omega), e2 46 (by omega) (by omega), e2 47 (by omega) (by omega), e2 48 (by omega) (by omega)]
  exact d
/-- a formula as both hold it -/
def FoR (o c T : Nat) (pre : List (Int32 × Int32)) (h k : MH) : Prop := ∃ s F, gI h (o + 17) c = nI s ∧ gI h (o + 18) c = nI (s + F.length) ∧ s + F.length ≤ pre.length ∧ (∀ j st, F[j]? = some st → pre[s + j]? = some st) ∧ Wh T F 0 1 ∧ F.length ≤ 320 ∧ gI k 71 c = nI F.length ∧ ∀ j st, F[j]? = some st → gI k 69 (320 * c + j) = st.1 ∧ gI k 70 (320 * c + j) = st.2
theorem FoR.eq {o c T : Nat} {pre : List (Int32 × Int32)} {h k h' k' : MH} (f : FoR o c T pre h k) (e1 : gI h' (o + 17) c = gI h (o + 17) c) (e2 : gI h' (o + 18) c = gI h (o + 18) c) (e3 : gI k' 71 c = gI k 71 c) (e4 : ∀ j, 320 * c ≤ j → j < 320 * c + 320 → gI k' 69 j = gI k 69 j ∧ gI k' 70 j = gI k 70 j) : FoR o c T pre h' k' := by
  obtain ⟨s, F, a1, a2, a3, a4, a5, a6, a7, a8⟩ := f
  refine ⟨s, F, by rw [e1]; exact a1, by rw [e2]; exact a2, a3, a4, a5, a6, by rw [e3]; exact a7, fun j st hj => ?_⟩
  have hl : j < F.length := (List.getElem?_eq_some_iff.mp hj).1
  rw [(e4 _ (by omega) (by omega)).1, (e4 _ (by omega) (by omega)).2]
  exact a8 j st hj
theorem Wh_mono {T T' : Nat} (ht : T ≤ T') : ∀ F n m, Wh T F n m → Wh T' F n m
  | [], n, m, a => a
  | q :: r, n, m, a => by
    rcases a with ⟨a1, a2, a3, a4⟩ | ⟨a1, a2, ⟨t, t1, t2⟩, a4⟩ | ⟨a1, a2, a4⟩ | ⟨a1, a2, a3, a4⟩
    · exact Or.inl ⟨a1, a2, a3, Wh_mono ht r _ _ a4⟩
    · exact Or.inr (Or.inl ⟨a1, a2, ⟨t, by omega, t2⟩, Wh_mono ht r _ _ a4⟩)
    · exact Or.inr (Or.inr (Or.inl ⟨a1, a2, Wh_mono ht r _ _ a4⟩))
    · exact Or.inr (Or.inr (Or.inr ⟨a1, a2, a3, Wh_mono ht r _ _ a4⟩))
theorem FoR.mono {o c T T' : Nat} (ht : T ≤ T') {pre : List (Int32 × Int32)} {h k : MH} (f : FoR o c T pre h k) (P : List (Int32 × Int32)) : FoR o c T' (pre ++ P) h k := by
  obtain ⟨s, F, a1, a2, a3, a4, a5, a6, a7, a8⟩ := f
  refine ⟨s, F, a1, a2, by rw [List.length_append]; omega, fun j st hj => ?_, Wh_mono ht _ _ _ a5, a6, a7, a8⟩
  have := a4 j st hj
  have hl := (List.getElem?_eq_some_iff.mp this).1
  rw [List.getElem?_append_left hl]
  exact this
def Fos (o nf T : Nat) (pre : List (Int32 × Int32)) (h k : MH) : Prop := (gI h (o + 15) 1 = nI pre.length ∧ (∀ j s, pre[j]? = some s → gI h (o + 16) j = cdo s) ∧ PrO pre) ∧ (∃ u, u ≤ 120 ∧ nLf pre ≤ u ∧ gI h (o + 15) 5 = nI u ∧ gI k 66 21 = nI u) ∧ (∀ c, c < nf → FoR o c T pre h k) ∧ ∃ n, n < 16 ∧ gI h 45 2 = nI n ∧ gI k 66 49 = nI n ∧ (n % 2 = 1 → FoR o 12 T pre h k) ∧ (n % 2 = 0 → gI h (o + 18) 12 = 0)
theorem Fos.eq {o nf T : Nat} {pre : List (Int32 × Int32)} {h k h' k' : MH} (hnf : nf ≤ 12) (f : Fos o nf T pre h k) (e : ∀ y j, 15 ≤ y → y ≤ 18 → gI h' (o + y) j = gI h (o + y) j) (e45 : gI h' 45 2 = gI h 45 2) (e2 : gI k' 66 21 = gI k 66 21 ∧ gI k' 66 49 = gI k 66 49) (e3 : ∀ a j, 69 ≤ a → a ≤ 71 → gI k' a j = gI k a j) : Fos o nf T pre h' k' := by
  obtain ⟨⟨a1, a2, a3⟩, ⟨u, u1, u2, u3, u4⟩, b, n, n1, n2, n3, n4, n5⟩ := f
  have F : ∀ c, FoR o c T pre h k → FoR o c T pre h' k' := fun c q => q.eq (e _ _ (by omega) (by omega)) (e _ _ (by omega) (by omega)) (e3 _ _ (by omega) (by omega)) (fun j _ _ => ⟨e3 _ _ (by omega) (by omega), e3 _ _ (by omega) (by omega)⟩)
  exact ⟨⟨by rw [e _ _ (by omega) (by omega)]; exact a1, fun j s hj => by rw [e _ _ (by omega) (by omega)]; exact a2 j s hj, a3⟩, ⟨u, u1, u2, by rw [e _ _ (by omega) (by omega)]; exact u3, by rw [e2.1]; exact u4⟩, fun c hc => F c (b c hc), n, n1, by rw [e45]; exact n2, by rw [e2.2]; exact n3, fun z => F 12 (n4 z), fun z => by rw [e _ _ (by omega) (by omega)]; exact n5 z⟩
def Nms (o : Nat) (T R C : List Int64) (h k : MH) : Prop := (NmC (o + 1) 4 T h ∧ NmM 0 T k ∧ gI k 66 40 = nI T.length) ∧ (NmC (o + 4) 3 R h ∧ NmM 4 R k ∧ gI k 66 41 = nI R.length) ∧ (NmC (o + 8) 12 C h ∧ NmM 7 C k ∧ gI k 66 42 = nI C.length)
def Dat (o nc : Nat) (T R : List Int64) (h k : MH) : Prop := D1 o T h k ∧ D2 o R h k ∧ D3 o nc R h k ∧ D4 o nc h k ∧ D5 o nc h ∧ D6 o nc h k
def Rel (x : Txt) (o i nc : Nat) (T R C : List Int64) (pre : List (Int32 × Int32)) (h0 k0 h k : MH) : Prop :=
  (BsC x o i h ∧ BsM x i k) ∧ (FzC o h0 h ∧ FzM k0 k) ∧ Nms o T R C h k ∧ Dat o nc T R h k ∧ Fos o C.length T.length pre h k ∧ 4 * nNt pre ≤ tkS (tks x i)
theorem tks_mono {x : Txt} (hx : TxB x) {i j : Nat} (h : i ≤ j) : tkS (tks x i) ≤ tkS (tks x j) := by
  induction h with
  | refl => exact Nat.le_refl _
  | step _ ih =>
    rename_i m _
    have a := tks_S hx m
    obtain ⟨p, hp, e⟩ := tks_at x hx m
    have b := (tkn_bd hx hp).2.1
    rw [← e] at b
    exact Nat.le_trans ih (Nat.le_trans b a)
theorem NmM.up {b n : Nat} {N : List Int64} {k k' : MH} (hN : NmM b N k) (s : Sm k k' ((68, some n) :: WT)) (hn : ¬ (b ≤ n ∧ n < b + N.length)) : NmM b N k' := by
  refine ⟨hN.1, hN.2.1, fun j w hw => ?_⟩
  have hl := (List.getElem?_eq_some_iff.mp hw).1
  rw [s.L ?_]
  · exact hN.2.2 j w hw
  · unfold WT wr wr1
    simp only [List.any_cons, List.any_nil, show (n == b + j) = false by simpa using (show ¬ n = b + j by omega)]
    rfl
theorem wT_no {n a j : Nat} (h : ¬ a = 66) (h2 : ¬ a = 68) : wr ((68, some n) :: WT) a j = false := by
  unfold WT wr wr1
  simp only [List.any_cons, List.any_nil, show (66 == a) = false by simpa using fun z : 66 = a => h z.symm, show (68 == a) = false by simpa using fun z : 68 = a => h2 z.symm, Bool.false_and, Bool.or_self]
theorem wT_66 {n j : Nat} (h : 10 ≤ j) : wr ((68, some n) :: WT) 66 j = false := by
  unfold WT wr wr1
  simp only [List.any_cons, List.any_nil, show (2 == j) = false by simpa using (show ¬ 2 = j by omega), show (3 == j) = false by simpa using (show ¬ 3 = j by omega), show (4 == j) = false by simpa using (show ¬ 4 = j by omega), show (6 == j) = false by simpa using (show ¬ 6 = j by omega), show (7 == j) = false by simpa using (show ¬ 7 = j by omega), show (8 == j) = false by simpa using (show ¬ 8 = j by omega), show (9 == j) = false by simpa using (show ¬ 9 = j by omega), Bool.and_false, Bool.or_self]
  rfl
/-- steps in the text alone -/
theorem Rel.fr {x : Txt} {o i i' nc n : Nat} {T R C : List Int64} {pre : List (Int32 × Int32)} {h0 k0 h k h' k' : MH} (ho : Oo o) (r : Rel x o i nc T R C pre h0 k0 h k) (s : Sm h h' WS) (s2 : Sm k k' ((68, some n) :: WT)) (hn : ¬ n < T.length ∧ ¬ (4 ≤ n ∧ n < 4 + R.length) ∧ ¬ (7 ≤ n ∧ n < 7 + C.length)) (b1 : BsC x o i' h') (b2 : BsM x i' k') (hi : i ≤ i') : Rel x o i' nc T R C pre h0 k0 h' k' := by
  obtain ⟨-, ⟨f1, f2⟩, ⟨⟨n1, n2, n3⟩, ⟨n4, n5, n6⟩, n7, n8, n9⟩, ⟨d1, d2, d3, d4, d5, d6⟩, fo, tp⟩ := r
  have hr := Oo_rng ho
  have I : ∀ {a j : Nat}, ¬ a = 43 → ¬ a = 45 → gI h' a j = gI h a j := fun q1 q2 => s.I (wS_no q1 q2)
  have J : ∀ {a j : Nat}, ¬ a = 66 → ¬ a = 68 → gI k' a j = gI k a j := fun q1 q2 => s2.I (wT_no q1 q2)
  have K : ∀ {j : Nat}, 10 ≤ j → gI k' 66 j = gI k 66 j := fun q => s2.I (wT_66 q)
  have hc := n7.2.1
  refine ⟨⟨b1, b2⟩, ⟨f1.sm s WS_C, f2.sm s2 WT_M⟩, ⟨⟨n1.S s (by omega), n2.up s2 (by omega), by rw [K (by omega)]; exact n3⟩, ⟨n4.S s (by omega), n5.up s2 (by omega), by rw [K (by omega)]; exact n6⟩, n7.S s (by omega), n8.up s2 (by omega), by rw [K (by omega)]; exact n9⟩, ⟨d1.eq (fun j => I (by omega) (by omega)) (fun j => J (by omega) (by omega)), d2.eq (fun j => I (by omega) (by omega)) (fun j => J (by omega) (by omega)), d3.eq (fun y j _ _ => I (by omega) (by omega)) (fun a j _ _ => J (by omega) (by omega)), d4.eq (fun y j _ _ => I (by omega) (by omega)) (fun j => J (by omega) (by omega)), d5.eq (fun j => I (by omega) (by omega)) (fun j => I (by omega) (by omega)), d6.eq (fun j _ _ => I (by omega) (by omega)) (fun j _ _ => K (by omega))⟩, fo.eq hc (fun y j _ _ => I (by omega) (by omega)) (s.I rfl) ⟨K (by omega), K (by omega)⟩ (fun a j _ _ => J (by omega) (by omega)), Nat.le_trans tp (tks_mono b1.2.1.1 hi)⟩
def Out (x : Txt) (o i0 : Nat) (h0 k0 h k : MH) : Prop := (∃ i T R C pre, i0 < i ∧ Rel x o i C.length T R C pre h0 k0 h k) ∨ (∃ c p, BC o c p h ∧ BM c p k ∧ FzC o h0 h ∧ FzM k0 k)
theorem WT_19 {k k' : MH} (s : Sm k k' WT) : Sm k k' ((68, some 19) :: WT) := s.mono (fun q hq => List.mem_cons_of_mem _ hq)
theorem Rel.n19 {x : Txt} {o i nc : Nat} {T R C : List Int64} {pre : List (Int32 × Int32)} {h0 k0 h k : MH} (r : Rel x o i nc T R C pre h0 k0 h k) : ¬ 19 < T.length ∧ ¬ (4 ≤ 19 ∧ 19 < 4 + R.length) ∧ ¬ (7 ≤ 19 ∧ 19 < 7 + C.length) := by
  have a1 := r.2.2.1.1.1.2.1
  have a2 := r.2.2.1.2.1.1.2.1
  have a3 := r.2.2.1.2.2.1.2.1
  omega
theorem Rel.bad {x : Txt} {o i nc i0 c p n : Nat} {T R C : List Int64} {pre : List (Int32 × Int32)} {h0 k0 h k h' k' : MH} (r : Rel x o i nc T R C pre h0 k0 h k) (s : Sm h h' WS) (s2 : Sm k k' ((68, some n) :: WT)) (b1 : BC o c p h') (b2 : BM c p k') : Out x o i0 h0 k0 h' k' := Or.inr ⟨c, p, b1, b2, r.2.1.1.sm s WS_C, r.2.1.2.sm s2 WT_M⟩
