/-! constructors of single objects, at any place -/
def Al (h : MH) (a c : Nat) : Prop := kd h a = c ∧ a < h.1.length
theorem Al.k {h : MH} {a c : Nat} (q : Al h a c) : kd h a = c := q.1
theorem Al.nC {h : MH} {a c t n : Nat} (q : Al h a c) : Al (nC h t n) a c := by
  obtain ⟨q1, q2⟩ := q
  refine ⟨?_, ?_⟩
  · rw [kdN, if_neg (by omega)]; exact q1
  · rw [hl_nC]; omega
theorem Al.sR {h : MH} {a c x y : Nat} {v : Value} (q : Al h a c) : Al (sR h x y v) a c := q
theorem Al.sI {h : MH} {a c x y : Nat} {v : Int32} (q : Al h a c) : Al (sI h x y v) a c := q
theorem s_Ta_init {h : MH} {a μ : Nat} (hA : Al h a 9) (h2 : 2 ≤ a) (hμ : 3 < μ) : cal 6 [.ref a] μ h = some (none, (sR (nC h 23 1600) a 0 (.ref (h.1.length)))) := by
  rw [C_6 a μ h hA.k h2 hμ, B_6_0, e_aload_n_0, e_objinit, e_aload_n_0, e_sipush_1600, e_newarr_byte, P_900, R_6]
  · first
    | rfl
    | (simp only [hl_sR, hl_sI, hl_nC, Nat.add_assoc, Nat.reduceAdd]; rfl)
    | exact h2
    | decide
    | exact Al.k hA
  all_goals first
    | exact h2
    | decide
    | (refine Al.k ?_; (repeat first | exact hA | apply Al.sR | apply Al.sI | apply Al.nC); done)
    | exact Al.k (by (repeat first | exact hA | refine Al.sR ?_ | refine Al.sI ?_ | refine Al.nC ?_))
theorem s_Ly_init {h : MH} {a μ : Nat} (hA : Al h a 3) (h2 : 2 ≤ a) (hμ : 3 < μ) : cal 12 [.ref a] μ h = some (none, (sR (nC h 20 40) a 0 (.ref (h.1.length)))) := by
  rw [C_12 a μ h hA.k h2 hμ, B_12_0, e_aload_n_0, e_objinit, e_aload_n_0, e_bipush_40, e_newarr_int, P_300, R_12]
  · first
    | rfl
    | (simp only [hl_sR, hl_sI, hl_nC, Nat.add_assoc, Nat.reduceAdd]; rfl)
    | exact h2
    | decide
    | exact Al.k hA
  all_goals first
    | exact h2
    | decide
    | (refine Al.k ?_; (repeat first | exact hA | apply Al.sR | apply Al.sI | apply Al.nC); done)
    | exact Al.k (by (repeat first | exact hA | refine Al.sR ?_ | refine Al.sI ?_ | refine Al.nC ?_))
theorem s_Wi_init {h : MH} {a μ : Nat} (hA : Al h a 10) (h2 : 2 ≤ a) (hμ : 3 < μ) : cal 10 [.ref a] μ h = some (none, (sR (nC (sR (nC h 20 20) a 0 (.ref (h.1.length))) 20 20) a 1 (.ref (h.1.length + 1)))) := by
  rw [C_10 a μ h hA.k h2 hμ, B_10_0, e_aload_n_0, e_objinit, e_aload_n_0, e_bipush_20, e_newarr_int, P_1000, e_aload_n_0, e_bipush_20, e_newarr_int, P_1001, R_10]
  · first
    | rfl
    | (simp only [hl_sR, hl_sI, hl_nC, Nat.add_assoc, Nat.reduceAdd]; rfl)
    | exact h2
    | decide
    | exact Al.k hA
  all_goals first
    | exact h2
    | decide
    | (refine Al.k ?_; (repeat first | exact hA | apply Al.sR | apply Al.sI | apply Al.nC); done)
    | exact Al.k (by (repeat first | exact hA | refine Al.sR ?_ | refine Al.sI ?_ | refine Al.nC ?_))
theorem s_Ju_init {h : MH} {a μ : Nat} (hA : Al h a 2) (h2 : 2 ≤ a) (hμ : 3 < μ) : cal 11 [.ref a] μ h = some (none, (sR (nC (sR (nC (sR (nC (sR (nC (sR (nC h 20 30) a 0 (.ref (h.1.length))) 20 30) a 1 (.ref (h.1.length + 1))) 20 30) a 2 (.ref (h.1.length + 2))) 20 30) a 3 (.ref (h.1.length + 3))) 20 30) a 4 (.ref (h.1.length + 4)))) := by
  rw [C_11 a μ h hA.k h2 hμ, B_11_0, e_aload_n_0, e_objinit, e_aload_n_0, e_bipush_30, e_newarr_int, P_200, e_aload_n_0, e_bipush_30, e_newarr_int, P_201, e_aload_n_0, e_bipush_30, e_newarr_int, P_202, e_aload_n_0, e_bipush_30, e_newarr_int, P_203, e_aload_n_0, e_bipush_30, e_newarr_int, P_204, R_11]
  · first
    | rfl
    | (simp only [hl_sR, hl_sI, hl_nC, Nat.add_assoc, Nat.reduceAdd]; rfl)
    | exact h2
    | decide
    | exact Al.k hA
  all_goals first
    | exact h2
    | decide
    | (refine Al.k ?_; (repeat first | exact hA | apply Al.sR | apply Al.sI | apply Al.nC); done)
    | exact Al.k (by (repeat first | exact hA | refine Al.sR ?_ | refine Al.sI ?_ | refine Al.nC ?_))
theorem s_Re_init {h : MH} {a x y μ : Nat} (hA : Al h a 6) (h2 : 2 ≤ a) (hμ : 3 < μ) : cal 7 [.ref a, .ref x, .ref y] μ h = some (none, (sR (sR (sI h a 5 (-1)) a 0 (.ref (x))) a 1 (.ref (y)))) := by
  rw [C_7 a x y μ h hA.k h2 hμ, B_7_0, e_aload_n_0, e_objinit, e_aload_n_0, e_iconst_m1, P_605, e_aload_n_0, e_aload_n_1, P_600, e_aload_n_0, e_aload_n_2, P_601, R_7]
  · first
    | rfl
    | (simp only [hl_sR, hl_sI, hl_nC, Nat.add_assoc, Nat.reduceAdd]; rfl)
    | exact h2
    | decide
    | exact Al.k hA
  all_goals first
    | exact h2
    | decide
    | (refine Al.k ?_; (repeat first | exact hA | apply Al.sR | apply Al.sI | apply Al.nC); done)
    | exact Al.k (by (repeat first | exact hA | refine Al.sR ?_ | refine Al.sI ?_ | refine Al.nC ?_))
theorem s_Sn_init {h : MH} {a x μ : Nat} (hA : Al h a 8) (h2 : 2 ≤ a) (hμ : 3 < μ) : cal 9 [.ref a, .ref x] μ h = some (none, (sR (sR (nC h 20 1188) a 1 (.ref (h.1.length))) a 0 (.ref (x)))) := by
  rw [C_9 a x μ h hA.k h2 hμ, B_9_0, e_aload_n_0, e_objinit, e_aload_n_0, e_sipush_1188, e_newarr_int, P_801, e_aload_n_0, e_aload_n_1, P_800, R_9]
  · first
    | rfl
    | (simp only [hl_sR, hl_sI, hl_nC, Nat.add_assoc, Nat.reduceAdd]; rfl)
    | exact h2
    | decide
    | exact Al.k hA
  all_goals first
    | exact h2
    | decide
    | (refine Al.k ?_; (repeat first | exact hA | apply Al.sR | apply Al.sI | apply Al.nC); done)
    | exact Al.k (by (repeat first | exact hA | refine Al.sR ?_ | refine Al.sI ?_ | refine Al.nC ?_))
theorem s_Ca_init {h : MH} {a x μ : Nat} (hA : Al h a 0) (h2 : 2 ≤ a) (hμ : 3 < μ) : cal 8 [.ref a, .ref x] μ h = some (none, (sR (sR (nC (sR (nC (sR (nC (sR (nC (sR (nC (sR (nC h 20 4) a 2 (.ref (h.1.length))) 20 4) a 3 (.ref (h.1.length + 1))) 22 256) a 4 (.ref (h.1.length + 2))) 20 256) a 5 (.ref (h.1.length + 3))) 20 12) a 6 (.ref (h.1.length + 4))) 22 4096) a 7 (.ref (h.1.length + 5))) a 0 (.ref (x)))) := by
  rw [C_8 a x μ h hA.k h2 hμ, B_8_0, e_aload_n_0, e_objinit, e_aload_n_0, e_iconst_4, e_newarr_int, P_2, e_aload_n_0, e_iconst_4, e_newarr_int, P_3, e_aload_n_0, e_sipush_256, e_newarr_short, P_4, e_aload_n_0, e_sipush_256, e_newarr_int, P_5, e_aload_n_0, e_bipush_12, e_newarr_int, P_6, e_aload_n_0, e_sipush_4096, e_newarr_short, P_7, e_aload_n_0, e_aload_n_1, P_0, R_8]
  · first
    | rfl
    | (simp only [hl_sR, hl_sI, hl_nC, Nat.add_assoc, Nat.reduceAdd]; rfl)
    | exact h2
    | decide
    | exact Al.k hA
  all_goals first
    | exact h2
    | decide
    | (refine Al.k ?_; (repeat first | exact hA | apply Al.sR | apply Al.sI | apply Al.nC); done)
    | exact Al.k (by (repeat first | exact hA | refine Al.sR ?_ | refine Al.sI ?_ | refine Al.nC ?_))
theorem s_Fo_init {h : MH} {a μ : Nat} (hA : Al h a 1) (h2 : 2 ≤ a) (hμ : 3 < μ) : cal 5 [.ref a] μ h = some (none, (sR (nC (sR (nC (sR (nC (sR (nC h 22 640) a 0 (.ref (h.1.length))) 20 13) a 2 (.ref (h.1.length + 1))) 20 13) a 3 (.ref (h.1.length + 2))) 20 32) a 4 (.ref (h.1.length + 3)))) := by
  rw [C_5 a μ h hA.k h2 hμ, B_5_0, e_aload_n_0, e_objinit, e_aload_n_0, e_sipush_640, e_newarr_short, P_100, e_aload_n_0, e_bipush_13, e_newarr_int, P_102, e_aload_n_0, e_bipush_13, e_newarr_int, P_103, e_aload_n_0, e_bipush_32, e_newarr_int, P_104, R_5]
  · first
    | rfl
    | (simp only [hl_sR, hl_sI, hl_nC, Nat.add_assoc, Nat.reduceAdd]; rfl)
    | exact h2
    | decide
    | exact Al.k hA
  all_goals first
    | exact h2
    | decide
    | (refine Al.k ?_; (repeat first | exact hA | apply Al.sR | apply Al.sI | apply Al.nC); done)
    | exact Al.k (by (repeat first | exact hA | refine Al.sR ?_ | refine Al.sI ?_ | refine Al.nC ?_))
theorem s_Na_init {h : MH} {a n μ : Nat} (hA : Al h a 4) (h2 : 2 ≤ a) (hn : n ≤ 12) (hμ : 4 < μ) : cal 3 [.ref a, .int (nI n)] μ h = some (none, sR (nC h 21 n) a 0 (.ref h.1.length)) := by
  have e : (if nI n < 0 then (0 : Int32) else nI n) = nI n := if_neg (nI_pos (by omega))
  have tn : (nI n).toNatClampNeg = n := tc_nI (by omega)
  rw [C_3 a (nI n) μ h hA.k h2 hμ, B_3_0, e_aload_n_0, e_objinit, e_aload_n_0, e_iload_n_1, e_iconst_0, rn_cal _ _ _ _ _ _ _ _ (by simp) (by simp)]
  · show (cal 4 [.int (nI n), .int 0] 4 h).bind (fun r => rn 3 4 _ _ (psh r.1 [.ref a]) r.2) = _
    rw [s_JM_max (by decide), e]
    show rn 3 4 _ _ [.int (nI n), .ref a] h = _
    rw [e_newarr_long, tn, P_400, R_3]
    · exact Al.k (Al.nC hA)
    · exact h2
    · exact nI_pos (by omega)
    · rw [tn]; omega
  · decide
