def WO3 : WL := [(76, none), (92, none), (93, none), (94, none), (66, some 64), (66, some 65), (66, some 67), (66, some 70), (66, some 82), (110, none)]
theorem o_s3 {L : LD} {Fs : Nat → List (Int32 × Int32)} {l2 : Option Value} {i st sd : Int32} {k : MH} (hB : SzB L) (hN2 : dN L ≤ 256) (hW : WkA L Fs k) (h58 : gI k 66 58 = nI (dN L)) (h48 : gI k 66 48 = sd) (h54 : gI k 66 54 = st) (hc : ∀ c, c < dC L → gI k 86 c = nI (dHome L c) ∧ dHome L c < 3) (h88 : ∀ c, c < dC L → gI k 88 c = dTold L c) (h85 : ∀ t, t < 3 → gI k 85 t = dHow L t) (hA : ∀ j, j < dN L → dApp L j = apv L Fs j (dC L)) : ∃ k', rn 209 11 B_209_382 [some (.ref 66), some (.int i), l2] [] k = some (some (.int (nI (dN L))), k') ∧ St k' ∧ (∀ j, j < dN L → gI k' 92 j = dApp L j) ∧ (∀ j, j < dC L → gI k' 93 j = ovn L j (dC L)) ∧ (∀ j, j < 27 → gI k' 94 j = bgn sd st j) ∧ (gI k' 66 64 = 0 ∧ gI k' 66 65 = 0 ∧ gI k' 66 67 = 0 ∧ gI k' 66 70 = 0 ∧ gI k' 66 82 = 0) ∧ (∀ j, j < 3 → gI k' 110 j = 0) ∧ Sm k k' WO3 := by
  obtain ⟨k1, a1, a2, a3⟩ := s_Mo_layCases hB hN2 hW h58 (μ := 11) (by omega)
  have S1 := (hW.sm a3).2.1
  have hO : OvH L k1 := ⟨S1, by rw [a3.I rfl]; exact h58, ⟨hN2, hW.1.2⟩, fun c h => by rw [a3.I rfl]; exact hc c h, fun c h => by rw [a3.I rfl]; exact h88 c h, fun t h => by rw [a3.I rfl]; exact h85 t h, fun j h => by rw [a2 j h]; exact (hA j h).symm⟩
  obtain ⟨k2, b1, b2, b3⟩ := s_Mo_layOver hO (by rw [a3.I rfl]; exact hW.1.1) (μ := 11) (by omega)
  have S2 := (hO.sm b3).1
  have e48 : gI k2 66 48 = sd := by rw [b3.I rfl, a3.I rfl]; exact h48
  have e54 : gI k2 66 54 = st := by rw [b3.I rfl, a3.I rfl]; exact h54
  have r1 := o_382 (l2 := l2) (i := i) hW.2.1 a1 b1 S2
  rw [e48, e54] at r1
  have S3 : St (sI (sI (sI k2 94 0 0) 94 1 sd) 94 2 st) := by simpa only [kd_sI, ln_sI, hl_sI, gL_sI, gR_sI, kd_sL, ln_sL, hl_sL, gI_sL, gR_sL, kd_sR, ln_sR, hl_sR, gI_sR, gL_sR, kd_cpI, ln_cpI, hl_cpI, gL_cpI, gR_cpI, gI_cpI, gI_sI, gL_sL, gR_sR, St_sI, St_sL, St_cpI, Nat.reduceEqDiff, Nat.reduceAdd, eq_self, false_and, and_false, true_and, and_true, and_self, if_true, if_false, false_or, or_false, true_or, or_true, not_true_eq_false, not_false_eq_true, reduceIte] using S2
  obtain ⟨k3, c1, c2, c3, c4⟩ := lp_o6 (sd := sd) (st := st) (l2 := l2) 12 0 (sI (sI (sI k2 94 0 0) 94 1 sd) 94 2 st) (by omega) S3 (by rw [gI_sI, if_neg (by omega), gI_sI, if_neg (by omega), gI_sI, if_neg (by omega)]; exact e54) (fun j hj => by
    rcases (show j = 0 ∨ j = 1 ∨ j = 2 by omega) with rfl | rfl | rfl
    · rw [gI_sI, if_neg (by omega), gI_sI, if_neg (by omega), gI_sI, if_pos ⟨rfl, rfl⟩]; rfl
    · rw [gI_sI, if_neg (by omega), gI_sI, if_pos ⟨rfl, rfl⟩]; rfl
    · rw [gI_sI, if_pos ⟨rfl, rfl⟩]; rfl) (fun j hj => absurd hj (by omega))
  have S4 : St (sI (sI (sI (sI (sI k3 66 64 0) 66 65 0) 66 70 0) 66 82 0) 66 67 0) := by simpa only [kd_sI, ln_sI, hl_sI, gL_sI, gR_sI, kd_sL, ln_sL, hl_sL, gI_sL, gR_sL, kd_sR, ln_sR, hl_sR, gI_sR, gL_sR, kd_cpI, ln_cpI, hl_cpI, gL_cpI, gR_cpI, gI_cpI, gI_sI, gL_sL, gR_sR, St_sI, St_sL, St_cpI, Nat.reduceEqDiff, Nat.reduceAdd, eq_self, false_and, and_false, true_and, and_true, and_self, if_true, if_false, false_or, or_false, true_or, or_true, not_true_eq_false, not_false_eq_true, reduceIte] using c3
  obtain ⟨k4, d1, d2, d3, d4⟩ := lp_o7 (l2 := l2) 3 0 (sI (sI (sI (sI (sI k3 66 64 0) 66 65 0) 66 70 0) 66 82 0) 66 67 0) (by omega) S4 (fun j hj => absurd hj (by omega))
  have s3 : Sm k2 k3 WO3 := ((((Sm.rf k2 _).sI rfl).sI rfl).sI rfl).trans (c4.mono (by unfold WO3; simp))
  have s4 : Sm k3 k4 WO3 := ((((((Sm.rf k3 _).sI rfl).sI rfl).sI rfl).sI rfl).sI rfl).trans (d4.mono (by unfold WO3; simp))
  have sA : Sm k k2 WO3 := (a3.mono (by unfold WO3; simp)).trans (b3.mono (by unfold WO3; simp))
  have e58 : gI (sI (sI (sI (sI (sI k3 66 64 0) 66 65 0) 66 70 0) 66 82 0) 66 67 0) 66 58 = nI (dN L) := by
    simp only [kd_sI, ln_sI, hl_sI, gL_sI, gR_sI, kd_sL, ln_sL, hl_sL, gI_sL, gR_sL, kd_sR, ln_sR, hl_sR, gI_sR, gL_sR, kd_cpI, ln_cpI, hl_cpI, gL_cpI, gR_cpI, gI_cpI, gI_sI, gL_sL, gR_sR, St_sI, St_sL, St_cpI, Nat.reduceEqDiff, Nat.reduceAdd, eq_self, false_and, and_false, true_and, and_true, and_self, if_true, if_false, false_or, or_false, true_or, or_true, not_true_eq_false, not_false_eq_true, reduceIte]
    rw [(sA.trans s3).I rfl]
    exact h58
  rw [e58] at d1
  have z : ∀ {a j : Nat}, (a = 92 ∨ a = 93 ∨ a = 94) → gI k4 a j = gI k3 a j := fun {a j} q => by
    rw [d4.I (by rcases q with rfl | rfl | rfl <;> rfl), gI_sI, if_neg (by omega), gI_sI, if_neg (by omega), gI_sI, if_neg (by omega), gI_sI, if_neg (by omega), gI_sI, if_neg (by omega)]
  have y : ∀ {a j : Nat}, (a = 92 ∨ a = 93) → gI k3 a j = gI k2 a j := fun {a j} q => by
    rw [c4.I (by rcases q with rfl | rfl <;> rfl), gI_sI, if_neg (by omega), gI_sI, if_neg (by omega), gI_sI, if_neg (by omega)]
  refine ⟨k4, by rw [r1, c1, o_466 c3]; exact d1, d3, fun j hj => ?_, fun j hj => ?_, fun j hj => ?_, ?_, d2, (sA.trans s3).trans s4⟩
  · rw [z (by omega), y (by omega), b3.I rfl, a2 j hj]; exact (hA j hj).symm
  · rw [z (by omega), y (by omega)]; exact b2 j hj
  · rw [z (by omega)]; exact c2 j hj
  · rw [d4.I rfl, d4.I rfl, d4.I rfl, d4.I rfl, d4.I rfl]
    simp only [kd_sI, ln_sI, hl_sI, gL_sI, gR_sI, kd_sL, ln_sL, hl_sL, gI_sL, gR_sL, kd_sR, ln_sR, hl_sR, gI_sR, gL_sR, kd_cpI, ln_cpI, hl_cpI, gL_cpI, gR_cpI, gI_cpI, gI_sI, gL_sL, gR_sR, St_sI, St_sL, St_cpI, Nat.reduceEqDiff, Nat.reduceAdd, eq_self, false_and, and_false, true_and, and_true, and_self, if_true, if_false, false_or, or_false, true_or, or_true, not_true_eq_false, not_false_eq_true, reduceIte]
