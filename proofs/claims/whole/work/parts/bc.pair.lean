/-! frames of a reading, as lists -/
def W340 : WL := (List.range 40).map (fun i => (i + 3, none))
def W66L : WL := (List.range 50).map (fun i => (66, some (if i = 22 then 0 else i)))
def WRc : WL := (43, none) :: (45, none) :: W340
def WRm : WL := W66L ++ [(68, none), (69, none), (70, none), (71, none), (75, none), (77, none), (78, none), (79, none), (80, none), (81, none), (82, none), (83, none)]
theorem wr_m {l : WL} {a j : Nat} {q : Nat × Option Nat} (hq : q ∈ l) (h : wr1 q a j = true) : wr l a j = true := by
  unfold wr
  rw [List.any_eq_true]
  exact ⟨q, hq, h⟩
theorem wr_n {l : WL} {a j : Nat} (w : wr l a j = false) (y : wr l a j = true) : False := by
  rw [w] at y
  cases y
theorem w1_n (a j : Nat) : wr1 (a, none) a j = true := by simp [wr1]
theorem w1_s (a j : Nat) : wr1 (a, some j) a j = true := by simp [wr1]
theorem FzC.to {o : Nat} {h0 h : MH} (ho : Oo o) (f : FzC o h0 h) : Sm h0 h WRc := by
  have hr := Oo_rng ho
  refine ⟨f.1, fun a j w => f.2 a j (fun z => ?_) (fun z => ?_) (fun z => ?_)⟩
  · refine wr_n w (wr_m (q := (a, none)) (List.mem_cons_of_mem _ (List.mem_cons_of_mem _ (List.mem_map.mpr ⟨a - 3, List.mem_range.mpr (by omega), ?_⟩))) (w1_n a j))
    rw [show a - 3 + 3 = a by omega]
  · obtain ⟨rfl, -⟩ := z
    exact wr_n w (wr_m (q := (43, none)) (by unfold WRc; simp) (w1_n 43 j))
  · subst z
    exact wr_n w (wr_m (q := (45, none)) (by unfold WRc; simp) (w1_n 45 j))
theorem FzM.to {k0 k : MH} (f : FzM k0 k) : Sm k0 k WRm := by
  refine ⟨f.1.1.1, fun a j w => f.2 a j (fun z => ?_) (fun z => ?_) (fun z => ?_) (fun z => ?_)⟩
  · obtain ⟨rfl, z1, z2⟩ := z
    exact wr_n w (wr_m (q := (66, some j)) (List.mem_append_left _ (List.mem_map.mpr ⟨j, List.mem_range.mpr (by omega), by rw [if_neg z2]⟩)) (w1_s 66 j))
  · rcases (show a = 68 ∨ a = 69 ∨ a = 70 ∨ a = 71 by omega) with rfl | rfl | rfl | rfl <;> exact wr_n w (wr_m (q := (_, none)) (List.mem_append_right _ (by simp)) (w1_n _ j))
  · subst z
    exact wr_n w (wr_m (q := (75, none)) (List.mem_append_right _ (by simp)) (w1_n _ j))
  · rcases (show a = 77 ∨ a = 78 ∨ a = 79 ∨ a = 80 ∨ a = 81 ∨ a = 82 ∨ a = 83 by omega) with rfl | rfl | rfl | rfl | rfl | rfl | rfl <;> exact wr_n w (wr_m (q := (_, none)) (List.mem_append_right _ (by simp)) (w1_n _ j))
def WBd : WL := WRc ++ WRm
theorem LawC.eq {h h' : MH} {o : Nat} {L : LD} (hC : LawC h o L) (E : ∀ a j, (o ≤ a ∧ a ≤ o + 19) ∨ a = 2 ∨ (46 ≤ a ∧ a ≤ 53) → gI h' a j = gI h a j ∧ gR h' a j = gR h a j) : LawC h' o L := by
  obtain ⟨⟨a1, a2, a3, a4⟩, ⟨b1, b2, b3, b4⟩, c1, c2, c3, c4, ⟨d1, d2, d3, d4, d5⟩, e1, e2, e3⟩ := hC
  have I : ∀ {a j : Nat}, (o ≤ a ∧ a ≤ o + 19) ∨ a = 2 ∨ (46 ≤ a ∧ a ≤ 53) → gI h' a j = gI h a j := fun q => (E _ _ q).1
  have R : ∀ {a j : Nat}, (o ≤ a ∧ a ≤ o + 19) ∨ a = 2 ∨ (46 ≤ a ∧ a ≤ 53) → gR h' a j = gR h a j := fun q => (E _ _ q).2
  refine ⟨⟨a1, by rw [R (by omega)]; exact a2, by rw [R (by omega)]; exact a3, by rw [R (by omega)]; exact a4⟩, ⟨by rw [I (by omega)]; exact b1, by rw [I (by omega)]; exact b2, by rw [I (by omega)]; exact b3, by rw [I (by omega)]; exact b4⟩, fun t ht => by rw [I (by omega)]; exact c1 t ht, fun t ht => by rw [I (by omega)]; exact c2 t ht, fun c hc => ?_, fun c hc => by rw [I (by omega)]; exact c4 c hc, ⟨by rw [I (by omega)]; exact d1, by rw [I (by omega)]; exact d2, by rw [I (by omega)]; exact d3, by rw [I (by omega)]; exact d4, by rw [I (by omega)]; exact d5⟩, fun k hk => ?_, fun c hc => by rw [I (by omega)]; exact e2 c hc, fun t ht => by rw [I (by omega)]; exact e3 t ht⟩
  · rw [I (by omega), I (by omega), I (by omega), I (by omega)]; exact c3 c hc
  · rw [I (by omega), I (by omega)]; exact e1 k hk
/-- a text that does not tell an orchard changes nothing but the tape and the fault -/
theorem inv_bad {o o' p : Nat} {L : LD} {h hE kE : MH} (hI : INV o p L h) (oo : (o = 3 ∧ o' = 23) ∨ (o = 23 ∧ o' = 3)) (B : Bad2 o' h (sI hE 43 1 0) hE kE) : INV o p L kE := by
  obtain ⟨c, q, b1, b2, f1, f2⟩ := B
  have ho' : Oo o' := by
    rcases oo with ⟨-, e⟩ | ⟨-, e⟩
    · exact Or.inr e
    · exact Or.inl e
  have s : Sm h kE WBd := (((f1.to ho').mono (fun q hq => List.mem_append_left _ hq)).sI rfl).trans (f2.to.mono (fun q hq => List.mem_append_right _ hq))
  have E : ∀ a j, ¬ (o' ≤ a ∧ a ≤ o' + 19) → ¬ a = 43 → ¬ a = 45 → ¬ (a = 66 ∧ j ≤ 49 ∧ ¬ j = 22) → ¬ (68 ≤ a ∧ a ≤ 71) → ¬ a = 75 → ¬ (77 ≤ a ∧ a ≤ 83) → gI kE a j = gI h a j ∧ gL kE a j = gL h a j ∧ gR kE a j = gR h a j := fun a j q1 q2 q3 q4 q5 q6 q7 => by
    have y := f2.2 a j q4 q5 q6 q7
    have z := f1.2 a j q1 (by omega) q3
    rw [gI_sI, if_neg (by omega), gL_sI, gR_sI] at y
    exact ⟨y.1.trans z.1, y.2.1.trans z.2.1, y.2.2.trans z.2.2⟩
  obtain ⟨⟨⟨-, hB, hC, hMo⟩, hM, hs⟩, ⟨b1', hF, b3, b4, b5, b6, b7, b8⟩, c1, c2, c3⟩ := hI
  have lC : LawC kE o L := hC.eq (fun a j w => by
    have z := E a j (by omega) (by omega) (by omega) (by omega) (by omega) (by omega) (by omega)
    exact ⟨z.1, z.2.2⟩)
  refine ⟨⟨⟨b2.1, hB, lC, hMo.fr s.fr (by decide +kernel)⟩, hM.fr s.fr (by decide +kernel), hs.fr s.fr (by decide +kernel)⟩, ⟨⟨0, by omega, ?_, f2.1.1.2, fun i hi => absurd hi (by omega)⟩, ⟨?_, ?_, ?_, fun i hi => ?_, ?_⟩, b3.fr s.fr (by decide +kernel), b4.fr s.fr (by decide +kernel), b5.fr s.fr (by decide +kernel), b6.fr s.fr (by decide +kernel), b7.fr s.fr (by decide +kernel), b8.fr s.fr (by decide +kernel)⟩, c1.sm s (by decide +kernel) (by decide +kernel), c2.sm s (by decide +kernel) (by decide +kernel), c3.sm s (by decide +kernel)⟩
  · rw [(f2.2 43 1 (by omega) (by omega) (by omega) (by omega)).1, gI_sI, if_pos ⟨rfl, rfl⟩]
    rfl
  · rw [(f2.2 45 4 (by omega) (by omega) (by omega) (by omega)).1, gI_sI, if_neg (by omega), b1.2.1.1, b2.2.1]
  · rw [(f2.2 45 5 (by omega) (by omega) (by omega) (by omega)).1, gI_sI, if_neg (by omega), b1.2.1.2.1, b2.2.2.1]
  · rw [(E 2 7 (by omega) (by omega) (by omega) (by omega) (by omega) (by omega) (by omega)).2.2, (E 2 8 (by omega) (by omega) (by omega) (by omega) (by omega) (by omega) (by omega)).2.2]
    exact hF.2.2.1
  · rw [(E 1 i (by omega) (by omega) (by omega) (by omega) (by omega) (by omega) (by omega)).2.1]
    exact hF.2.2.2.1 i hi
  · refine f2.1.2 (fun i hi => ?_)
    obtain ⟨n, n1, n2⟩ := hF.2.2.2.2 i hi
    exact ⟨n, n1, by rw [gI_sI, if_neg (by omega), (f1.2 71 i (by omega) (by omega) (by omega)).1]; exact n2⟩
/-! settled: class's side of a new law -/
theorem settle_at {o sa p st sd : Nat} {L : LD} {Fs : Nat → List (Int32 × Int32)} {ss : Nat → Nat} {FA : List (Int32 × Int32)} {am : Bool} {h : MH} (ho : Oo o) (hS : St h) (hl : gR h 2 7 = .ref o) (hB : LawB L) (hO : Own L Fs FA am) (lw : LwO o L st sd h) (fo : Fo2 o L Fs ss h) (a2 : Am2 o L FA sa am h) (hp : gI h 53 2 = nI p) (hp2 : p < 41) {μ : Nat} (hμ : 8 < μ) :
    ∃ h1, cal 13 [.ref 2] μ h = some (none, h1) ∧ St h1 ∧ gR h1 46 0 = .ref o ∧ gI h1 46 1 = nI (dN L) ∧ (∀ s, s < 4 → gI h1 47 s = nI (strd L s 4)) ∧ (∀ k, k < dN L → gI h1 49 k = dApp L k ∧ gI h1 50 k = dAim L k) ∧ (∀ j, j < dC L → gI h1 51 j = dAbv L j) ∧ (∀ j, j < 4096 → gI h1 52 j = -3) ∧ (∀ j, j < 27 → rowC h1 p j = bgn (nI sd) (nI st) j) ∧ gR h1 53 0 = .ref o ∧ gI h1 53 3 = 0 ∧ gI h1 53 4 = 0 ∧ gI h1 53 5 = 0 ∧ gI h1 55 2 = 0 ∧ gI h1 58 5 = 0 ∧ gI h1 64 1 = 0 ∧ Sm h h1 (WSt o) := by
  obtain ⟨lN, lApp, lAbv, lAim⟩ := hO
  have c12 := hB.1.2.2.1
  obtain ⟨⟨t1, -, -⟩, t2, -, t4, -, t6, t7⟩ := lw
  have hR3 := hB.1.2.1
  obtain ⟨h1, s1, S1, x1, x2, x3, x4, x5, x6, x7, x8, x9, y1, y2, y3, y4, y5, y6⟩ := s_GL_settle ho hB.sz hS hl hp hp2 ⟨t1, t2⟩ fo a2 ⟨fun c hc => ⟨(t4 c hc).1, by have := (hB.2.1 c hc).1; omega, (t4 c hc).2.2.2.2.1⟩, fun c hc => (t4 c hc).2.2.2.2.2⟩ lN hB.1.2.2.2.2 (fun k _ => lApp k) hμ
  refine ⟨h1, s1, S1, x1, x2, x3, fun k hk => ?_, fun j hj => ?_, x6, fun j hj => ?_, x8, x9, y1, y2, y3, y4, y5, y6⟩
  · rw [lAim]; exact x4 k hk
  · rw [x5 j (by omega), lAbv, ovb_n hj]
  · rw [x7 j hj, t6, t7]
theorem lawC_of {o st sd : Nat} {L : LD} {h h2 : MH} (ho : Oo o) (hB : LawB L) (lw : LwO o L st sd h) (E : ∀ a j, o ≤ a → a ≤ o + 18 → gI h2 a j = gI h a j) (r1 : gR h2 2 7 = .ref o) (r2 : gR h2 46 0 = .ref o) (r3 : gR h2 53 0 = .ref o) (n : gI h2 46 1 = nI (dN L)) (z47 : ∀ s, s < 4 → gI h2 47 s = nI (strd L s 4)) (z49 : ∀ k, k < dN L → gI h2 49 k = dApp L k ∧ gI h2 50 k = dAim L k) (z51 : ∀ j, j < dC L → gI h2 51 j = dAbv L j) : LawC h2 o L := by
  obtain ⟨⟨t1, t2, t3⟩, t4, t5, t6, ⟨u1, u2, u3, u4, u5⟩, -, -⟩ := lw
  have I : ∀ {a j : Nat}, o ≤ a ∧ a ≤ o + 18 → gI h2 a j = gI h a j := fun q => E _ _ q.1 q.2
  refine ⟨⟨ho, r1, r2, r3⟩, ⟨by rw [I (by omega)]; exact t1, by rw [I (by omega)]; exact t2, by rw [I (by omega)]; exact t3, n⟩, fun t ht => by rw [I (by omega)]; exact t4 t ht, fun t ht => by rw [I (by omega)]; exact t5 t ht, fun c hc => ?_, fun c hc => ?_, ⟨by rw [I (by omega)]; exact u1, by rw [I (by omega)]; exact u2, by rw [I (by omega)]; exact u3, by rw [I (by omega)]; exact u4, by rw [I (by omega)]; exact u5⟩, z49, z51, z47⟩
  · obtain ⟨v1, v2, v3, v4, -⟩ := t6 c hc
    rw [I (by omega), I (by omega), I (by omega), I (by omega)]
    exact ⟨v1, v2, v3, v4⟩
  · obtain ⟨v, w1, w2⟩ := (hB.2.1 c hc).2
    exact ⟨v, w1, by rw [I (by omega), (t6 c hc).2.1]; exact w2⟩
/-- all that holds between two calls, of a law that nothing was done under yet -/
theorem inv_fresh {o p st sd : Nat} {L : LD} {k : MH} (hS : St k) (hB : LawB L) (lc : LawC k o L) (m52 : ∀ j, j < 4096 → gI k 52 j = -3) (lm : LawM k L) (am : AimM L k) (ov : OvM L k) (hp : gI k 53 2 = nI p) (hp2 : p < 41) (rC : ∀ j, j < 27 → rowC k p j = bgn (nI sd) (nI st) j) (rM : ∀ j, j < 27 → gI k 94 j = bgn (nI sd) (nI st) j) (hst : st < 2 ^ dC L) (hsd : sd ≤ 999) (z3 : gI k 53 3 = 0) (z4 : gI k 53 4 = 0) (z5 : gI k 53 5 = 0) (z66 : gI k 66 64 = 0 ∧ gI k 66 65 = 0 ∧ gI k 66 67 = 0 ∧ gI k 66 70 = 0 ∧ gI k 66 82 = 0) (z110 : ∀ j, j < 3 → gI k 110 j = 0) (z55 : gI k 55 2 = 0) (z58 : gI k 58 5 = 0) (tm : ∃ t, t ≤ 100000 ∧ gI k 58 6 = nI t ∧ gI k 66 83 = nI t) (tp : gI k 43 1 = 0 ∧ gI k 66 1 = 0) (fl : Flt k) (ly : Lyi k) (sr : Srh k) (rm : Rom k) : INV o p L k := by
  have h12 := pw12 hB.1.2.2.1
  have r0 : rowM k 0 = 0 := rM 0 (by omega)
  have r1 : rowM k 1 = nI sd := rM 1 (by omega)
  have r2 : rowM k 2 = nI st := rM 2 (by omega)
  refine ⟨⟨⟨hS, hB, lc, fun s hs => Or.inl (m52 s (by omega))⟩, lm, hp, hp2, fun j hj => by rw [rC j hj]; exact (rM j hj).symm, ⟨st, hst, r2⟩, ⟨0, by omega, r0⟩, sd, by omega, r1⟩, ⟨⟨0, by omega, tp.1, tp.2, fun i hi => absurd hi (by omega)⟩, fl, ⟨0, by omega, z55, z66.2.2.2.1, fun i hi => absurd hi (by omega)⟩, ⟨⟨0, by omega, z58, z66.2.2.2.2, fun i hi => absurd hi (by omega)⟩, tm⟩, ⟨⟨⟨st, hst, r2⟩, ⟨0, by omega, r0⟩, ⟨sd, by omega, r1⟩, fun c h1 h2 => ?_⟩, p, 0, 0, hp2, by omega, ?_, z4, z66.1, z5, z66.2.1, fun j hj => absurd hj (by omega), fun j h1 h2 => absurd h2 (by omega)⟩, fun b hb => Or.inl ⟨?_, z110 b hb⟩, am, ov⟩, ly, sr, rm⟩
  · show gI k 94 (15 + c) = -1
    rw [rM (15 + c) (by omega)]
    unfold bgn
    rw [if_neg (by omega), if_neg (by omega), if_neg (by omega), if_neg (by omega)]
  · rw [Nat.add_zero, Nat.mod_eq_of_lt hp2]
  · rw [z3]
    exact (bit_0 0 (by omega)).mpr (tbt_0 b)
