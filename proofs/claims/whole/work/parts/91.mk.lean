/-! a list of names made, formulas made; an orchard made -/
theorem mk_Na4 {k μ : Nat} {cs : List IR} {ls : LV} {st : List Value} {h : MH} (hl : 2 ≤ h.1.length) (hs : st.length ≤ 3) (hμ : 4 < μ) : rn k μ (.new 4 :: .dup :: .iconst 4 :: .invokeinterface 3 2 :: cs) ls st h = rn k μ cs ls (.ref h.1.length :: st) (sR (nC (nC h 4 2) 21 4) h.1.length 0 (.ref (h.1.length + 1))) := by
  have hA : Al (nC h 4 2) h.1.length 4 := ⟨(kd_nC h 4 2).1, by rw [hl_nC]; omega⟩
  have c := s_Na_init (n := 4) hA hl (by omega) hμ
  rw [hl_nC] at c
  rw [e_new_4, e_dup_a, e_iconst_4, rn_cal _ _ _ _ _ _ _ _ (by simp) (by simp; omega)]
  show (cal 3 [.ref h.1.length, .int (nI 4)] μ (nC h 4 2)).bind (fun r => rn k μ cs ls (psh r.1 (.ref h.1.length :: st)) r.2) = _
  rw [c]
  rfl
theorem mk_Na3 {k μ : Nat} {cs : List IR} {ls : LV} {st : List Value} {h : MH} (hl : 2 ≤ h.1.length) (hs : st.length ≤ 3) (hμ : 4 < μ) : rn k μ (.new 4 :: .dup :: .iconst 3 :: .invokeinterface 3 2 :: cs) ls st h = rn k μ cs ls (.ref h.1.length :: st) (sR (nC (nC h 4 2) 21 3) h.1.length 0 (.ref (h.1.length + 1))) := by
  have hA : Al (nC h 4 2) h.1.length 4 := ⟨(kd_nC h 4 2).1, by rw [hl_nC]; omega⟩
  have c := s_Na_init (n := 3) hA hl (by omega) hμ
  rw [hl_nC] at c
  rw [e_new_4, e_dup_a, e_iconst_3, rn_cal _ _ _ _ _ _ _ _ (by simp) (by simp; omega)]
  show (cal 3 [.ref h.1.length, .int (nI 3)] μ (nC h 4 2)).bind (fun r => rn k μ cs ls (psh r.1 (.ref h.1.length :: st)) r.2) = _
  rw [c]
  rfl
theorem mk_Na12 {k μ : Nat} {cs : List IR} {ls : LV} {st : List Value} {h : MH} (hl : 2 ≤ h.1.length) (hs : st.length ≤ 3) (hμ : 4 < μ) : rn k μ (.new 4 :: .dup :: .bipush 12 :: .invokeinterface 3 2 :: cs) ls st h = rn k μ cs ls (.ref h.1.length :: st) (sR (nC (nC h 4 2) 21 12) h.1.length 0 (.ref (h.1.length + 1))) := by
  have hA : Al (nC h 4 2) h.1.length 4 := ⟨(kd_nC h 4 2).1, by rw [hl_nC]; omega⟩
  have c := s_Na_init (n := 12) hA hl (by omega) hμ
  rw [hl_nC] at c
  rw [e_new_4, e_dup_a, e_bipush_12, rn_cal _ _ _ _ _ _ _ _ (by simp) (by simp; omega)]
  show (cal 3 [.ref h.1.length, .int (nI 12)] μ (nC h 4 2)).bind (fun r => rn k μ cs ls (psh r.1 (.ref h.1.length :: st)) r.2) = _
  rw [c]
  rfl
theorem mk_Fo {k μ : Nat} {cs : List IR} {ls : LV} {st : List Value} {h : MH} (hl : 2 ≤ h.1.length) (hs : st.length ≤ 3) (hμ : 3 < μ) : rn k μ (.new 1 :: .dup :: .invokeinterface 5 1 :: cs) ls st h = rn k μ cs ls (.ref h.1.length :: st) (sR (nC (sR (nC (sR (nC (sR (nC (nC h 1 6) 22 640) h.1.length 0 (.ref (h.1.length + 1))) 20 13) h.1.length 2 (.ref (h.1.length + 2))) 20 13) h.1.length 3 (.ref (h.1.length + 3))) 20 32) h.1.length 4 (.ref (h.1.length + 4))) := by
  have hA : Al (nC h 1 6) h.1.length 1 := ⟨(kd_nC h 1 6).1, by rw [hl_nC]; omega⟩
  have c := s_Fo_init hA hl hμ
  rw [hl_nC] at c
  rw [e_new_1, e_dup_a, rn_cal _ _ _ _ _ _ _ _ (by simp) (by simp; omega)]
  show (cal 5 [.ref h.1.length] μ (nC h 1 6)).bind (fun r => rn k μ cs ls (psh r.1 (.ref h.1.length :: st)) r.2) = _
  rw [c]
  rfl
