def WO2 : WL := [(85, none), (86, none), (87, none), (88, none), (89, none), (90, none), (91, none)]
theorem o_s2 {L : LD} {l2 : Option Value} {k : MH} (hS : St k) (hR : RwN L k) : ∃ k', rn 209 11 B_209_253 [some (.ref 66), some (.int (nI 0)), l2] [] k = rn 209 11 B_209_382 [some (.ref 66), some (.int (nI 12)), l2] [] k' ∧ St k' ∧ (∀ j, j < 3 → gI k' 85 j = gI k 78 j) ∧ (∀ j, j < 12 → gI k' 86 j = gI k 79 j ∧ gI k' 87 j = gI k 80 j ∧ gI k' 88 j = gI k 81 j ∧ gI k' 89 j = gI k 82 j ∧ gI k' 90 j = gI k 83 j) ∧ (∀ t, t < 3 → gI k' 91 t = mbs L t (dC L)) ∧ Sm k k' WO2 := by
  obtain ⟨k1, a1, a2, a3, a4⟩ := lp_o4 (l2 := l2) 3 0 k (by omega) hS (fun j hj => absurd hj (by omega))
  obtain ⟨k2, b1, b2, b3, b4, b5⟩ := lp_o5 (L := L) (l2 := l2) 12 0 k1 (by omega) a3 ⟨by rw [a4.I rfl]; exact hR.1, hR.2.1, fun c hc => by rw [a4.I rfl]; exact hR.2.2 c hc⟩ (fun j hj => absurd hj (by omega)) (fun t ht => by
    rw [(a2 t ht).2, show min 0 (dC L) = 0 by omega]
    rfl)
  refine ⟨k2, by rw [a1, o_283 a3, b1], b4, fun j hj => by rw [b5.I rfl]; exact (a2 j hj).1, fun j hj => ?_, b3, (a4.mono (by unfold WO2; simp)).trans (b5.mono (by unfold WO2; simp))⟩
  have := b2 j hj
  rw [a4.I rfl, a4.I rfl, a4.I rfl, a4.I rfl, a4.I rfl] at this
  exact this
