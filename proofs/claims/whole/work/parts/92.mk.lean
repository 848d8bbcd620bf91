/-! an orchard made -/
def orN (h : MH) (a : Nat) : MH := (sI (sR (sR (nC (sR (nC (sR (nC (sR (nC (nC (sR (nC (sR (nC (sR (nC (sR (nC (sR (nC (sR (sR (nC (nC (sR (nC (sR (nC (sR (sR (nC (nC (sR (nC (sR (sR (nC (nC h 4 2) 21 4) (h.1.length) 0 (.ref (h.1.length + 1))) a 0 (.ref (h.1.length))) 20 4) a 1 (.ref (h.1.length + 2))) 4 2) 21 3) (h.1.length + 3) 0 (.ref (h.1.length + 4))) a 2 (.ref (h.1.length + 3))) 20 3) a 3 (.ref (h.1.length + 5))) 20 3) a 4 (.ref (h.1.length + 6))) 4 2) 21 12) (h.1.length + 7) 0 (.ref (h.1.length + 8))) a 5 (.ref (h.1.length + 7))) 20 12) a 6 (.ref (h.1.length + 9))) 20 12) a 7 (.ref (h.1.length + 10))) 20 12) a 8 (.ref (h.1.length + 11))) 20 12) a 9 (.ref (h.1.length + 12))) 20 12) a 10 (.ref (h.1.length + 13))) 1 6) 22 640) (h.1.length + 14) 0 (.ref (h.1.length + 15))) 20 13) (h.1.length + 14) 2 (.ref (h.1.length + 16))) 20 13) (h.1.length + 14) 3 (.ref (h.1.length + 17))) 20 32) (h.1.length + 14) 4 (.ref (h.1.length + 18))) a 11 (.ref (h.1.length + 14))) a 15 (1))
theorem s_Or_init {h : MH} {a μ : Nat} (hA : Al h a 5) (h2 : 2 ≤ a) (hμ : 5 < μ) : cal 2 [.ref a] μ h = some (none, orN h a) := by
  have hl : 2 ≤ h.1.length := by have := hA.2; omega
  have hA1 := hA.1
  have hA2 := hA.2
  rw [C_2 a μ h hA.k h2 hμ, B_2_0, e_aload_n_0, e_objinit, e_aload_n_0, mk_Na4, P_500, e_aload_n_0, e_iconst_4, e_newarr_int, P_501, e_aload_n_0, mk_Na3, P_502, e_aload_n_0, e_iconst_3, e_newarr_int, P_503, e_aload_n_0, e_iconst_3, e_newarr_int, P_504, e_aload_n_0, mk_Na12, P_505, e_aload_n_0, e_bipush_12, e_newarr_int, P_506, e_aload_n_0, e_bipush_12, e_newarr_int, P_507, e_aload_n_0, e_bipush_12, e_newarr_int, P_508, e_aload_n_0, e_bipush_12, e_newarr_int, P_509, e_aload_n_0, e_bipush_12, e_newarr_int, P_510, e_aload_n_0, mk_Fo, P_511, e_aload_n_0, e_iconst_1, P_515, R_2]
  · unfold orN
    first
    | rfl
    | (simp only [hl_sR, hl_sI, hl_nC, Nat.add_assoc, Nat.reduceAdd]; done)
    | (simp only [hl_sR, hl_sI, hl_nC, Nat.add_assoc, Nat.reduceAdd]; rfl)
  all_goals first
    | exact h2
    | exact (show (1 : Nat) ≤ 3 by omega)
    | decide
    | (simp only [hl_sR, hl_sI, hl_nC]; omega)
    | (simp only [kd_sR, kd_sI, kdN, hl_sR, hl_sI, hl_nC]; (repeat rw [if_neg (by omega)]); exact hA1)
    | exact hl
