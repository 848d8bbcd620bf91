/-! the reference takes over what it has read: all of it -/
def WKO : WL := [(66, some 50), (66, some 51), (66, some 52), (66, some 53), (66, some 54), (66, some 55), (66, some 56), (66, some 57), (66, some 59), (66, some 22), (66, some 58)]
theorem kO1_sm {L : LD} {n st : Nat} {k : MH} : Sm k (kO1 L n st k) WKO := by
  unfold kO1
  exact (((((((((((Sm.rf k _).sI rfl).sI rfl).sI rfl).sI rfl).sI rfl).sI rfl).sI rfl).sI rfl).sI rfl).sI rfl).sI rfl
def WOA : WL := WKO ++ (WO1 ++ (WO2 ++ WO3))
theorem kO1_v {L : LD} {n st : Nat} {k : MH} : (gI (kO1 L n st k) 66 50 = nI (dT L) ∧ gI (kO1 L n st k) 66 51 = nI (dR L) ∧ gI (kO1 L n st k) 66 52 = nI (dC L)) ∧ (gI (kO1 L n st k) 66 53 = dLink L ∧ gI (kO1 L n st k) 66 54 = nI st ∧ gI (kO1 L n st k) 66 55 = dForb L) ∧ (gI (kO1 L n st k) 66 56 = dBear L ∧ gI (kO1 L n st k) 66 57 = dSuck L ∧ gI (kO1 L n st k) 66 59 = (if n % 2 = 1 then 1 else 0) ∧ gI (kO1 L n st k) 66 22 = dUnit L) := by
  unfold kO1
  refine ⟨⟨?_, ?_, ?_⟩, ⟨?_, ?_, ?_⟩, ?_, ?_, ?_, ?_⟩ <;> simp only [kd_sI, ln_sI, hl_sI, gL_sI, gR_sI, kd_sL, ln_sL, hl_sL, gI_sL, gR_sL, kd_sR, ln_sR, hl_sR, gI_sR, gL_sR, kd_cpI, ln_cpI, hl_cpI, gL_cpI, gR_cpI, gI_cpI, gI_sI, gL_sL, gR_sR, St_sI, St_sL, St_cpI, Nat.reduceEqDiff, Nat.reduceAdd, eq_self, false_and, and_false, true_and, and_true, and_self, if_true, if_false, false_or, or_false, true_or, or_true, not_true_eq_false, not_false_eq_true, reduceIte]
theorem o_all {L : LD} {Fs : Nat → List (Int32 × Int32)} {FA : List (Int32 × Int32)} {am : Bool} {st sd n : Nat} {k : MH} (hS : St k) (hB : LawB L) (hO : Own L Fs FA am) (h71 : M71 k) (hM : MnR L Fs FA am st sd n k) : ∃ k', rn 209 11 B_209_13 [some (.ref 66), none, none] [] k = some (some (.int (nI (dN L))), k') ∧ St k' ∧ LawM k' L ∧ AimM L k' ∧ OvM L k' ∧ (∀ j, j < 27 → gI k' 94 j = bgn (nI sd) (nI st) j) ∧ (gI k' 66 64 = 0 ∧ gI k' 66 65 = 0 ∧ gI k' 66 67 = 0 ∧ gI k' 66 70 = 0 ∧ gI k' 66 82 = 0) ∧ (∀ j, j < 3 → gI k' 110 j = 0) ∧ Sm k k' WOA := by
  obtain ⟨lN, lApp, lAbv, lAim⟩ := hO
  have hSz := hB.sz
  have hN2 := hB.1.2.2.2.2
  obtain ⟨k1, l2, a1, a2, a3, a4, a5, a6⟩ := o_s1 hS hSz h71 hM
  obtain ⟨⟨m40, m41, m42, c12⟩, m77, m78, mC, ⟨m43, m44, mst, m45, m46, m47, m48, m21, m49, mn, mam⟩, mF, mA⟩ := hM
  obtain ⟨⟨v50, v51, v52⟩, ⟨v53, v54, v55⟩, v56, v57, v59, v22⟩ := kO1_v (L := L) (n := n) (st := st) (k := k)
  have hR1 : RwN L k1 := ⟨by rw [a6.I rfl]; exact v52, c12, fun c hc => by rw [a6.I rfl, kO1_I (by omega)]; exact ⟨(mC c hc).1, (mC c hc).2.1⟩⟩
  obtain ⟨k2, b1, b2, b3, b4, b5, b6⟩ := o_s2 (l2 := l2) a2 hR1
  have I1 : ∀ {a j : Nat}, 77 ≤ a → a ≤ 83 → gI k1 a j = gI k a j := fun {a j} q1 q2 => by
    rcases (show a = 77 ∨ a = 78 ∨ a = 79 ∨ a = 80 ∨ a = 81 ∨ a = 82 ∨ a = 83 by omega) with rfl | rfl | rfl | rfl | rfl | rfl | rfl <;> rw [a6.I rfl, kO1_I (by omega)]
  have hFr : ∀ w F, w < 13 → F.length ≤ 320 → gI k 71 w = nI F.length → (∀ j s, F[j]? = some s → gI k 69 (320 * w + j) = s.1 ∧ gI k 70 (320 * w + j) = s.2) → Frm k2 w F := fun w F hw h1 h2 h3 => by
    obtain ⟨z1, z2⟩ := a5 w hw
    refine ⟨h1, by rw [b6.I rfl, z1]; exact h2, fun i q hq => ?_⟩
    have hl := (List.getElem?_eq_some_iff.mp hq).1
    have y := z2 _ h1 h2 i hl
    rw [b6.I rfl, b6.I rfl, y.1, y.2]
    exact h3 i q hq
  have e50 : gI k2 66 50 = nI (dT L) := by rw [b6.I rfl, a6.I rfl]; exact v50
  have e52 : gI k2 66 52 = nI (dC L) := by rw [b6.I rfl, a6.I rfl]; exact v52
  have e84 : ∀ t, t < dT L → gI k2 84 t = nI (dSize L t) := fun t ht => by rw [b6.I rfl]; exact a3 t ht
  have e58 : gI k2 66 58 = nI (dN L) := by rw [b6.I rfl, a4, lN]
  have hW : WkA L Fs k2 := ⟨⟨e52, c12⟩, b2, fun c hc => ⟨⟨b2, e50, e84, hFr c (Fs c) (by omega) (mF c hc).1 (mF c hc).2.1 (mF c hc).2.2.1⟩, (mF c hc).2.2.2⟩⟩
  have e86 : ∀ c, c < dC L → gI k2 86 c = nI (dHome L c) ∧ gI k2 87 c = dSay L c ∧ gI k2 88 c = dTold L c ∧ gI k2 89 c = dNeed L c ∧ gI k2 90 c = dBars L c := fun c hc => by
    obtain ⟨z1, z2, z3, z4, z5⟩ := b4 c (by omega)
    obtain ⟨y1, -, y3, y4, y5, y6⟩ := mC c hc
    rw [z1, z2, z3, z4, z5, I1 (by omega) (by omega), I1 (by omega) (by omega), I1 (by omega) (by omega), I1 (by omega) (by omega), I1 (by omega) (by omega)]
    exact ⟨y1, y3, y4, y5, y6⟩
  have e85 : ∀ t, t < 3 → gI k2 85 t = dHow L t := fun t ht => by rw [b3 t ht, I1 (by omega) (by omega)]; exact m78 t ht
  obtain ⟨k3, c1, c2, c3, c4, c5, c6, c7, c8⟩ := o_s3 (l2 := l2) (i := nI 12) (st := nI st) (sd := nI sd) hSz hN2 hW e58 (by rw [b6.I rfl, a6.I rfl, kO1_I (by omega)]; exact m48) (by rw [b6.I rfl, a6.I rfl]; exact v54) (fun c hc => ⟨(e86 c hc).1, (mC c hc).2.1⟩) (fun c hc => (e86 c hc).2.2.1) e85 (fun j _ => lApp j)
  have X : ∀ {j : Nat}, wr WO3 66 j = false → wr WO2 66 j = false → wr WO1 66 j = false → gI k3 66 j = gI (kO1 L n st k) 66 j := fun q1 q2 q3 => by rw [c8.I q1, b6.I q2, a6.I q3]
  have hFr3 : ∀ w F, Frm k2 w F → Frm k3 w F := fun w F f => ⟨f.1, by rw [c8.I rfl]; exact f.2.1, fun i q hq => by rw [c8.I rfl, c8.I rfl]; exact f.2.2 i q hq⟩
  refine ⟨k3, by rw [a1, b1]; exact c1, c2, ⟨⟨by rw [X rfl rfl rfl]; exact v50, by rw [X rfl rfl rfl]; exact v51, by rw [X rfl rfl rfl]; exact v52, by rw [c8.I rfl]; exact e58⟩, fun t ht => by rw [c8.I rfl]; exact e84 t ht, fun t ht => ?_, fun c hc => ?_, ⟨by rw [X rfl rfl rfl]; exact v55, by rw [X rfl rfl rfl]; exact v53, by rw [X rfl rfl rfl]; exact v56, by rw [X rfl rfl rfl]; exact v57, by rw [X rfl rfl rfl]; exact v22⟩, c3, fun c hc => by rw [c4 c hc]; exact (lAbv c).symm⟩, ?_, ⟨fun t ht => by rw [c8.I rfl]; exact e85 t ht, fun c hc => by rw [c8.I rfl]; exact (e86 c hc).2.2.1, fun c d hc hd => ?_⟩, c5, c6, c7, ?_⟩
  · obtain ⟨m, z1, z2, z3⟩ := hB.2.2.1 t ht
    rw [c8.I rfl, b5 t ht]
    exact mbs_e c12 z1 z2 z3
  · obtain ⟨z1, z2, -, z4, z5⟩ := e86 c hc
    rw [c8.I rfl, c8.I rfl, c8.I rfl, c8.I rfl]
    exact ⟨z1, z2, z4, z5⟩
  · have e59 : gI k3 66 59 = (if n % 2 = 1 then 1 else 0) := by rw [X rfl rfl rfl]; exact v59
    by_cases q : n % 2 = 1
    · have hm : am = true := by rw [mam]; exact decide_eq_true q
      obtain ⟨z1, z2, z3, z4⟩ := mA hm
      refine Or.inr ⟨by rw [e59, if_pos q], FA, hFr3 12 FA (hFr 12 FA (by omega) z1 z2 z3), z4, fun j _ => ?_⟩
      rw [lAim]
      unfold amv
      rw [if_pos hm]
      exact fv_e (L := L) (Fs := fun _ => FA) (c := 0) (k := j) z4
    · have hm : ¬ am = true := by rw [mam, decide_eq_false q]; decide
      refine Or.inl ⟨by rw [e59, if_neg q], fun j _ => ?_⟩
      rw [lAim]
      unfold amv
      rw [if_neg hm]
  · rw [lAbv, ovn_t L d (dC L) c12 c (by omega), decide_eq_true hc, Bool.true_and]
  · have s1 : Sm k (kO1 L n st k) WOA := kO1_sm.mono (fun q hq => List.mem_append_left _ hq)
    have s2 : Sm (kO1 L n st k) k1 WOA := a6.mono (fun q hq => List.mem_append_right _ (List.mem_append_left _ hq))
    have s3 : Sm k1 k2 WOA := b6.mono (fun q hq => List.mem_append_right _ (List.mem_append_right _ (List.mem_append_left _ hq)))
    have s4 : Sm k2 k3 WOA := c8.mono (fun q hq => List.mem_append_right _ (List.mem_append_right _ (List.mem_append_right _ hq)))
    exact ((s1.trans s2).trans s3).trans s4
