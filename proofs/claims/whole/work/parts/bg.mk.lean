/-! the reference's constructor -/
def moC0 (h : MH) : MH := (sR (nC (sR (nC (sR (nC (sR (nC (sR (nC (sR (nC (sI (sR (nC h 20 1600) 66 0 (.ref (h.1.length))) 66 3 (-1)) 21 20) 66 10 (.ref (h.1.length + 1))) 20 4160) 66 11 (.ref (h.1.length + 2))) 20 4160) 66 12 (.ref (h.1.length + 3))) 20 13) 66 13 (.ref (h.1.length + 4))) 20 4160) 66 14 (.ref (h.1.length + 5))) 20 4160) 66 15 (.ref (h.1.length + 6)))
theorem mc0 {cs : List IR} {h : MH} (hA : Al h 66 12) : rn 204 4 (.aload_n 0 :: .sipush 1600 :: .newarray .int :: .putfield 1200 :: .aload_n 0 :: .iconst (-1) :: .putfield 1203 :: .aload_n 0 :: .bipush 20 :: .newarray .long :: .putfield 1210 :: .aload_n 0 :: .sipush 4160 :: .newarray .int :: .putfield 1211 :: .aload_n 0 :: .sipush 4160 :: .newarray .int :: .putfield 1212 :: .aload_n 0 :: .bipush 13 :: .newarray .int :: .putfield 1213 :: .aload_n 0 :: .sipush 4160 :: .newarray .int :: .putfield 1214 :: .aload_n 0 :: .sipush 4160 :: .newarray .int :: .putfield 1215 :: cs) [some (.ref 66)] [] h = rn 204 4 cs [some (.ref 66)] [] (moC0 h) := by
  have h2 : 2 ≤ 66 := by omega
  have hA1 := hA.1
  have hA2 := hA.2
  rw [e_aload_n_0, e_sipush_1600, e_newarr_int, P_1200, e_aload_n_0, e_iconst_m1, P_1203, e_aload_n_0, e_bipush_20, e_newarr_long, P_1210, e_aload_n_0, e_sipush_4160, e_newarr_int, P_1211, e_aload_n_0, e_sipush_4160, e_newarr_int, P_1212, e_aload_n_0, e_bipush_13, e_newarr_int, P_1213, e_aload_n_0, e_sipush_4160, e_newarr_int, P_1214, e_aload_n_0, e_sipush_4160, e_newarr_int, P_1215]
  · unfold moC0
    first
    | rfl
    | (simp only [hl_sR, hl_sI, hl_nC, Nat.add_assoc, Nat.reduceAdd]; rfl)
  all_goals first
    | exact h2
    | decide
    | exact Al.k hA
    | (simp only [kd_sR, kd_sI, kdN, hl_sR, hl_sI, hl_nC]; (repeat rw [if_neg (by omega)]); exact hA1)
theorem ma0 {h : MH} (hA : Al h 66 12) : Al (moC0 h) 66 12 := by
  unfold moC0
  exact Al.sR (Al.nC (Al.sR (Al.nC (Al.sR (Al.nC (Al.sR (Al.nC (Al.sR (Al.nC (Al.sR (Al.nC (Al.sI (Al.sR (Al.nC (hA)))))))))))))))
theorem sm_0 {h : MH} : (moC0 h).1 = h.1 ++ [(20, 1600), (21, 20), (20, 4160), (20, 4160), (20, 13), (20, 4160), (20, 4160)] := by
  unfold moC0
  simp only [hl_sR, hl_sI, nC1, List.append_assoc, List.cons_append, List.nil_append]
theorem lm_0 {h : MH} : (moC0 h).1.length = h.1.length + 7 := by
  rw [sm_0, List.length_append]
  rfl
def moC1 (h : MH) : MH := (sR (nC (sR (nC (sR (nC (sR (nC (sR (nC (sR (nC (sR (nC (sR (nC h 20 13) 66 16 (.ref (h.1.length))) 20 160) 66 17 (.ref (h.1.length + 1))) 20 64) 66 18 (.ref (h.1.length + 2))) 20 4) 66 25 (.ref (h.1.length + 3))) 20 3) 66 26 (.ref (h.1.length + 4))) 20 12) 66 27 (.ref (h.1.length + 5))) 20 12) 66 28 (.ref (h.1.length + 6))) 20 12) 66 29 (.ref (h.1.length + 7)))
theorem mc1 {cs : List IR} {h : MH} (hA : Al h 66 12) : rn 204 4 (.aload_n 0 :: .bipush 13 :: .newarray .int :: .putfield 1216 :: .aload_n 0 :: .sipush 160 :: .newarray .int :: .putfield 1217 :: .aload_n 0 :: .bipush 64 :: .newarray .int :: .putfield 1218 :: .aload_n 0 :: .iconst 4 :: .newarray .int :: .putfield 1225 :: .aload_n 0 :: .iconst 3 :: .newarray .int :: .putfield 1226 :: .aload_n 0 :: .bipush 12 :: .newarray .int :: .putfield 1227 :: .aload_n 0 :: .bipush 12 :: .newarray .int :: .putfield 1228 :: .aload_n 0 :: .bipush 12 :: .newarray .int :: .putfield 1229 :: cs) [some (.ref 66)] [] h = rn 204 4 cs [some (.ref 66)] [] (moC1 h) := by
  have h2 : 2 ≤ 66 := by omega
  have hA1 := hA.1
  have hA2 := hA.2
  rw [e_aload_n_0, e_bipush_13, e_newarr_int, P_1216, e_aload_n_0, e_sipush_160, e_newarr_int, P_1217, e_aload_n_0, e_bipush_64, e_newarr_int, P_1218, e_aload_n_0, e_iconst_4, e_newarr_int, P_1225, e_aload_n_0, e_iconst_3, e_newarr_int, P_1226, e_aload_n_0, e_bipush_12, e_newarr_int, P_1227, e_aload_n_0, e_bipush_12, e_newarr_int, P_1228, e_aload_n_0, e_bipush_12, e_newarr_int, P_1229]
  · unfold moC1
    first
    | rfl
    | (simp only [hl_sR, hl_sI, hl_nC, Nat.add_assoc, Nat.reduceAdd]; rfl)
  all_goals first
    | exact h2
    | decide
    | exact Al.k hA
    | (simp only [kd_sR, kd_sI, kdN, hl_sR, hl_sI, hl_nC]; (repeat rw [if_neg (by omega)]); exact hA1)
theorem ma1 {h : MH} (hA : Al h 66 12) : Al (moC1 h) 66 12 := by
  unfold moC1
  exact Al.sR (Al.nC (Al.sR (Al.nC (Al.sR (Al.nC (Al.sR (Al.nC (Al.sR (Al.nC (Al.sR (Al.nC (Al.sR (Al.nC (Al.sR (Al.nC (hA))))))))))))))))
theorem sm_1 {h : MH} : (moC1 h).1 = h.1 ++ [(20, 13), (20, 160), (20, 64), (20, 4), (20, 3), (20, 12), (20, 12), (20, 12)] := by
  unfold moC1
  simp only [hl_sR, hl_sI, nC1, List.append_assoc, List.cons_append, List.nil_append]
theorem lm_1 {h : MH} : (moC1 h).1.length = h.1.length + 8 := by
  rw [sm_1, List.length_append]
  rfl
def moC2 (h : MH) : MH := (sR (nC (sR (nC (sR (nC (sR (nC (sR (nC (sR (nC (sR (nC (sR (nC h 20 12) 66 30 (.ref (h.1.length))) 20 12) 66 31 (.ref (h.1.length + 1))) 20 4) 66 32 (.ref (h.1.length + 2))) 20 3) 66 33 (.ref (h.1.length + 3))) 20 12) 66 34 (.ref (h.1.length + 4))) 20 12) 66 35 (.ref (h.1.length + 5))) 20 12) 66 36 (.ref (h.1.length + 6))) 20 12) 66 37 (.ref (h.1.length + 7)))
theorem mc2 {cs : List IR} {h : MH} (hA : Al h 66 12) : rn 204 4 (.aload_n 0 :: .bipush 12 :: .newarray .int :: .putfield 1230 :: .aload_n 0 :: .bipush 12 :: .newarray .int :: .putfield 1231 :: .aload_n 0 :: .iconst 4 :: .newarray .int :: .putfield 1232 :: .aload_n 0 :: .iconst 3 :: .newarray .int :: .putfield 1233 :: .aload_n 0 :: .bipush 12 :: .newarray .int :: .putfield 1234 :: .aload_n 0 :: .bipush 12 :: .newarray .int :: .putfield 1235 :: .aload_n 0 :: .bipush 12 :: .newarray .int :: .putfield 1236 :: .aload_n 0 :: .bipush 12 :: .newarray .int :: .putfield 1237 :: cs) [some (.ref 66)] [] h = rn 204 4 cs [some (.ref 66)] [] (moC2 h) := by
  have h2 : 2 ≤ 66 := by omega
  have hA1 := hA.1
  have hA2 := hA.2
  rw [e_aload_n_0, e_bipush_12, e_newarr_int, P_1230, e_aload_n_0, e_bipush_12, e_newarr_int, P_1231, e_aload_n_0, e_iconst_4, e_newarr_int, P_1232, e_aload_n_0, e_iconst_3, e_newarr_int, P_1233, e_aload_n_0, e_bipush_12, e_newarr_int, P_1234, e_aload_n_0, e_bipush_12, e_newarr_int, P_1235, e_aload_n_0, e_bipush_12, e_newarr_int, P_1236, e_aload_n_0, e_bipush_12, e_newarr_int, P_1237]
  · unfold moC2
    first
    | rfl
    | (simp only [hl_sR, hl_sI, hl_nC, Nat.add_assoc, Nat.reduceAdd]; rfl)
  all_goals first
    | exact h2
    | decide
    | exact Al.k hA
    | (simp only [kd_sR, kd_sI, kdN, hl_sR, hl_sI, hl_nC]; (repeat rw [if_neg (by omega)]); exact hA1)
theorem ma2 {h : MH} (hA : Al h 66 12) : Al (moC2 h) 66 12 := by
  unfold moC2
  exact Al.sR (Al.nC (Al.sR (Al.nC (Al.sR (Al.nC (Al.sR (Al.nC (Al.sR (Al.nC (Al.sR (Al.nC (Al.sR (Al.nC (Al.sR (Al.nC (hA))))))))))))))))
theorem sm_2 {h : MH} : (moC2 h).1 = h.1 ++ [(20, 12), (20, 12), (20, 4), (20, 3), (20, 12), (20, 12), (20, 12), (20, 12)] := by
  unfold moC2
  simp only [hl_sR, hl_sI, nC1, List.append_assoc, List.cons_append, List.nil_append]
theorem lm_2 {h : MH} : (moC2 h).1.length = h.1.length + 8 := by
  rw [sm_2, List.length_append]
  rfl
def moC3 (h : MH) : MH := (sR (nC (sR (nC (sR (nC (sR (nC (sR (nC (sR (nC (sR (nC (sR (nC h 20 12) 66 38 (.ref (h.1.length))) 20 3) 66 39 (.ref (h.1.length + 1))) 20 256) 66 60 (.ref (h.1.length + 2))) 20 12) 66 61 (.ref (h.1.length + 3))) 20 32) 66 62 (.ref (h.1.length + 4))) 20 1280) 66 63 (.ref (h.1.length + 5))) 20 4096) 66 66 (.ref (h.1.length + 6))) 20 20) 66 68 (.ref (h.1.length + 7)))
theorem mc3 {cs : List IR} {h : MH} (hA : Al h 66 12) : rn 204 4 (.aload_n 0 :: .bipush 12 :: .newarray .int :: .putfield 1238 :: .aload_n 0 :: .iconst 3 :: .newarray .int :: .putfield 1239 :: .aload_n 0 :: .sipush 256 :: .newarray .int :: .putfield 1260 :: .aload_n 0 :: .bipush 12 :: .newarray .int :: .putfield 1261 :: .aload_n 0 :: .bipush 32 :: .newarray .int :: .putfield 1262 :: .aload_n 0 :: .sipush 1280 :: .newarray .int :: .putfield 1263 :: .aload_n 0 :: .sipush 4096 :: .newarray .int :: .putfield 1266 :: .aload_n 0 :: .bipush 20 :: .newarray .int :: .putfield 1268 :: cs) [some (.ref 66)] [] h = rn 204 4 cs [some (.ref 66)] [] (moC3 h) := by
  have h2 : 2 ≤ 66 := by omega
  have hA1 := hA.1
  have hA2 := hA.2
  rw [e_aload_n_0, e_bipush_12, e_newarr_int, P_1238, e_aload_n_0, e_iconst_3, e_newarr_int, P_1239, e_aload_n_0, e_sipush_256, e_newarr_int, P_1260, e_aload_n_0, e_bipush_12, e_newarr_int, P_1261, e_aload_n_0, e_bipush_32, e_newarr_int, P_1262, e_aload_n_0, e_sipush_1280, e_newarr_int, P_1263, e_aload_n_0, e_sipush_4096, e_newarr_int, P_1266, e_aload_n_0, e_bipush_20, e_newarr_int, P_1268]
  · unfold moC3
    first
    | rfl
    | (simp only [hl_sR, hl_sI, hl_nC, Nat.add_assoc, Nat.reduceAdd]; rfl)
  all_goals first
    | exact h2
    | decide
    | exact Al.k hA
    | (simp only [kd_sR, kd_sI, kdN, hl_sR, hl_sI, hl_nC]; (repeat rw [if_neg (by omega)]); exact hA1)
theorem ma3 {h : MH} (hA : Al h 66 12) : Al (moC3 h) 66 12 := by
  unfold moC3
  exact Al.sR (Al.nC (Al.sR (Al.nC (Al.sR (Al.nC (Al.sR (Al.nC (Al.sR (Al.nC (Al.sR (Al.nC (Al.sR (Al.nC (Al.sR (Al.nC (hA))))))))))))))))
theorem sm_3 {h : MH} : (moC3 h).1 = h.1 ++ [(20, 12), (20, 3), (20, 256), (20, 12), (20, 32), (20, 1280), (20, 4096), (20, 20)] := by
  unfold moC3
  simp only [hl_sR, hl_sI, nC1, List.append_assoc, List.cons_append, List.nil_append]
theorem lm_3 {h : MH} : (moC3 h).1.length = h.1.length + 8 := by
  rw [sm_3, List.length_append]
  rfl
def moC4 (h : MH) : MH := (sR (nC (sR (nC (sR (nC (sR (nC (sR (nC (sR (nC (sR (nC (sR (nC h 20 20) 66 69 (.ref (h.1.length))) 20 4096) 66 71 (.ref (h.1.length + 1))) 20 4096) 66 72 (.ref (h.1.length + 2))) 20 4096) 66 73 (.ref (h.1.length + 3))) 24 4096) 66 74 (.ref (h.1.length + 4))) 20 30) 66 77 (.ref (h.1.length + 5))) 20 30) 66 78 (.ref (h.1.length + 6))) 20 30) 66 79 (.ref (h.1.length + 7)))
theorem mc4 {cs : List IR} {h : MH} (hA : Al h 66 12) : rn 204 4 (.aload_n 0 :: .bipush 20 :: .newarray .int :: .putfield 1269 :: .aload_n 0 :: .sipush 4096 :: .newarray .int :: .putfield 1271 :: .aload_n 0 :: .sipush 4096 :: .newarray .int :: .putfield 1272 :: .aload_n 0 :: .sipush 4096 :: .newarray .int :: .putfield 1273 :: .aload_n 0 :: .sipush 4096 :: .newarray .boolean :: .putfield 1274 :: .aload_n 0 :: .bipush 30 :: .newarray .int :: .putfield 1277 :: .aload_n 0 :: .bipush 30 :: .newarray .int :: .putfield 1278 :: .aload_n 0 :: .bipush 30 :: .newarray .int :: .putfield 1279 :: cs) [some (.ref 66)] [] h = rn 204 4 cs [some (.ref 66)] [] (moC4 h) := by
  have h2 : 2 ≤ 66 := by omega
  have hA1 := hA.1
  have hA2 := hA.2
  rw [e_aload_n_0, e_bipush_20, e_newarr_int, P_1269, e_aload_n_0, e_sipush_4096, e_newarr_int, P_1271, e_aload_n_0, e_sipush_4096, e_newarr_int, P_1272, e_aload_n_0, e_sipush_4096, e_newarr_int, P_1273, e_aload_n_0, e_sipush_4096, e_newarr_boolean, P_1274, e_aload_n_0, e_bipush_30, e_newarr_int, P_1277, e_aload_n_0, e_bipush_30, e_newarr_int, P_1278, e_aload_n_0, e_bipush_30, e_newarr_int, P_1279]
  · unfold moC4
    first
    | rfl
    | (simp only [hl_sR, hl_sI, hl_nC, Nat.add_assoc, Nat.reduceAdd]; rfl)
  all_goals first
    | exact h2
    | decide
    | exact Al.k hA
    | (simp only [kd_sR, kd_sI, kdN, hl_sR, hl_sI, hl_nC]; (repeat rw [if_neg (by omega)]); exact hA1)
theorem ma4 {h : MH} (hA : Al h 66 12) : Al (moC4 h) 66 12 := by
  unfold moC4
  exact Al.sR (Al.nC (Al.sR (Al.nC (Al.sR (Al.nC (Al.sR (Al.nC (Al.sR (Al.nC (Al.sR (Al.nC (Al.sR (Al.nC (Al.sR (Al.nC (hA))))))))))))))))
theorem sm_4 {h : MH} : (moC4 h).1 = h.1 ++ [(20, 20), (20, 4096), (20, 4096), (20, 4096), (24, 4096), (20, 30), (20, 30), (20, 30)] := by
  unfold moC4
  simp only [hl_sR, hl_sI, nC1, List.append_assoc, List.cons_append, List.nil_append]
theorem lm_4 {h : MH} : (moC4 h).1.length = h.1.length + 8 := by
  rw [sm_4, List.length_append]
  rfl
def moC5 (h : MH) : MH := (sR (nC (sR (nC (sR (nC (sR (nC (sR (nC (sR (nC h 20 30) 66 80 (.ref (h.1.length))) 20 30) 66 81 (.ref (h.1.length + 1))) 20 4096) 66 84 (.ref (h.1.length + 2))) 20 102) 66 85 (.ref (h.1.length + 3))) 24 3) 66 86 (.ref (h.1.length + 4))) 20 96) 66 87 (.ref (h.1.length + 5)))
theorem mc5 {cs : List IR} {h : MH} (hA : Al h 66 12) : rn 204 4 (.aload_n 0 :: .bipush 30 :: .newarray .int :: .putfield 1280 :: .aload_n 0 :: .bipush 30 :: .newarray .int :: .putfield 1281 :: .aload_n 0 :: .sipush 4096 :: .newarray .int :: .putfield 1284 :: .aload_n 0 :: .bipush 102 :: .newarray .int :: .putfield 1285 :: .aload_n 0 :: .iconst 3 :: .newarray .boolean :: .putfield 1286 :: .aload_n 0 :: .bipush 96 :: .newarray .int :: .putfield 1287 :: cs) [some (.ref 66)] [] h = rn 204 4 cs [some (.ref 66)] [] (moC5 h) := by
  have h2 : 2 ≤ 66 := by omega
  have hA1 := hA.1
  have hA2 := hA.2
  rw [e_aload_n_0, e_bipush_30, e_newarr_int, P_1280, e_aload_n_0, e_bipush_30, e_newarr_int, P_1281, e_aload_n_0, e_sipush_4096, e_newarr_int, P_1284, e_aload_n_0, e_bipush_102, e_newarr_int, P_1285, e_aload_n_0, e_iconst_3, e_newarr_boolean, P_1286, e_aload_n_0, e_bipush_96, e_newarr_int, P_1287]
  · unfold moC5
    first
    | rfl
    | (simp only [hl_sR, hl_sI, hl_nC, Nat.add_assoc, Nat.reduceAdd]; rfl)
  all_goals first
    | exact h2
    | decide
    | exact Al.k hA
    | (simp only [kd_sR, kd_sI, kdN, hl_sR, hl_sI, hl_nC]; (repeat rw [if_neg (by omega)]); exact hA1)
theorem ma5 {h : MH} (hA : Al h 66 12) : Al (moC5 h) 66 12 := by
  unfold moC5
  exact Al.sR (Al.nC (Al.sR (Al.nC (Al.sR (Al.nC (Al.sR (Al.nC (Al.sR (Al.nC (Al.sR (Al.nC (hA))))))))))))
theorem sm_5 {h : MH} : (moC5 h).1 = h.1 ++ [(20, 30), (20, 30), (20, 4096), (20, 102), (24, 3), (20, 96)] := by
  unfold moC5
  simp only [hl_sR, hl_sI, nC1, List.append_assoc, List.cons_append, List.nil_append]
theorem lm_5 {h : MH} : (moC5 h).1.length = h.1.length + 6 := by
  rw [sm_5, List.length_append]
  rfl
def moN (h : MH) : MH := moC5 (moC4 (moC3 (moC2 (moC1 (moC0 h)))))
theorem s_Mo_init {h k' : MH} {μ : Nat} (hA : Al h 66 12) (hμ : 4 < μ) (s : cal 205 [.ref 66] 4 (moN h) = some (none, k')) : cal 204 [.ref 66] μ h = some (none, k') := by
  rw [C_204 66 μ h hA.k (by omega) hμ, B_204_0, e_aload_n_0, e_objinit _ _ _ _ _ _ _ _ (by simp), mc0 hA, mc1 (ma0 hA), mc2 (ma1 (ma0 hA)), mc3 (ma2 (ma1 (ma0 hA))), mc4 (ma3 (ma2 (ma1 (ma0 hA)))), mc5 (ma4 (ma3 (ma2 (ma1 (ma0 hA))))), e_aload_n_0, rn_cal _ _ _ _ _ _ _ _ (by simp) (by simp)]
  show (cal 205 [.ref 66] 4 (moN h)).bind (fun r => rn 204 4 [.return_] [some (.ref 66)] (psh r.1 []) r.2) = _
  rw [s]
  show rn 204 4 [.return_] [some (.ref 66)] [] k' = _
  rw [R_204]
/-- what stays -/
def Ke (h h' : MH) : Prop := 66 < h'.1.length ∧ (∀ a j, a < 67 → ¬ (a = 66 ∧ j = 3) → gI h' a j = gI h a j) ∧ ∀ a j, a < 66 → gL h' a j = gL h a j ∧ gR h' a j = gR h a j
theorem Ke_nC {h h' : MH} {t n : Nat} (k : Ke h h') : Ke h (nC h' t n) := by
  obtain ⟨k1, k2, k3⟩ := k
  refine ⟨by rw [hl_nC]; omega, fun a j ha q => ?_, fun a j ha => ?_⟩
  · show (if a = h'.1.length then (0 : Int32) else gI h' a j) = _
    rw [if_neg (by omega)]
    exact k2 a j ha q
  · show (if a = h'.1.length then (0 : Int64) else gL h' a j) = _ ∧ (if a = h'.1.length then Value.null else gR h' a j) = _
    rw [if_neg (by omega), if_neg (by omega)]
    exact k3 a j ha
theorem Ke_sR {h h' : MH} {y : Nat} {v : Value} (k : Ke h h') : Ke h (sR h' 66 y v) := by
  obtain ⟨k1, k2, k3⟩ := k
  refine ⟨by rw [hl_sR]; exact k1, fun a j ha q => by rw [gI_sR]; exact k2 a j ha q, fun a j ha => ?_⟩
  rw [gL_sR, gR_sR, if_neg (by omega)]
  exact k3 a j ha
theorem Ke_sI {h h' : MH} {v : Int32} (k : Ke h h') : Ke h (sI h' 66 3 v) := by
  obtain ⟨k1, k2, k3⟩ := k
  refine ⟨by rw [hl_sI]; exact k1, fun a j ha q => by rw [gI_sI, if_neg q]; exact k2 a j ha q, fun a j ha => by rw [gL_sI, gR_sI]; exact k3 a j ha⟩
theorem Ke_0 {h h' : MH} (k : Ke h h') : Ke h (moC0 h') := by
  unfold moC0
  exact Ke_sR (Ke_nC (Ke_sR (Ke_nC (Ke_sR (Ke_nC (Ke_sR (Ke_nC (Ke_sR (Ke_nC (Ke_sR (Ke_nC (Ke_sI (Ke_sR (Ke_nC (k)))))))))))))))
theorem Ke_1 {h h' : MH} (k : Ke h h') : Ke h (moC1 h') := by
  unfold moC1
  exact Ke_sR (Ke_nC (Ke_sR (Ke_nC (Ke_sR (Ke_nC (Ke_sR (Ke_nC (Ke_sR (Ke_nC (Ke_sR (Ke_nC (Ke_sR (Ke_nC (Ke_sR (Ke_nC (k))))))))))))))))
theorem Ke_2 {h h' : MH} (k : Ke h h') : Ke h (moC2 h') := by
  unfold moC2
  exact Ke_sR (Ke_nC (Ke_sR (Ke_nC (Ke_sR (Ke_nC (Ke_sR (Ke_nC (Ke_sR (Ke_nC (Ke_sR (Ke_nC (Ke_sR (Ke_nC (Ke_sR (Ke_nC (k))))))))))))))))
theorem Ke_3 {h h' : MH} (k : Ke h h') : Ke h (moC3 h') := by
  unfold moC3
  exact Ke_sR (Ke_nC (Ke_sR (Ke_nC (Ke_sR (Ke_nC (Ke_sR (Ke_nC (Ke_sR (Ke_nC (Ke_sR (Ke_nC (Ke_sR (Ke_nC (Ke_sR (Ke_nC (k))))))))))))))))
theorem Ke_4 {h h' : MH} (k : Ke h h') : Ke h (moC4 h') := by
  unfold moC4
  exact Ke_sR (Ke_nC (Ke_sR (Ke_nC (Ke_sR (Ke_nC (Ke_sR (Ke_nC (Ke_sR (Ke_nC (Ke_sR (Ke_nC (Ke_sR (Ke_nC (Ke_sR (Ke_nC (k))))))))))))))))
theorem Ke_5 {h h' : MH} (k : Ke h h') : Ke h (moC5 h') := by
  unfold moC5
  exact Ke_sR (Ke_nC (Ke_sR (Ke_nC (Ke_sR (Ke_nC (Ke_sR (Ke_nC (Ke_sR (Ke_nC (Ke_sR (Ke_nC (k))))))))))))
theorem moN_Ke {h : MH} (hl : 66 < h.1.length) : Ke h (moN h) := by
  have b0 : Ke h h := ⟨hl, fun _ _ _ _ => rfl, fun _ _ _ => ⟨rfl, rfl⟩⟩
  exact Ke_5 (Ke_4 (Ke_3 (Ke_2 (Ke_1 (Ke_0 (b0))))))
def S67 (L : Nat) : List (Nat × Nat) := SHA L ++ [(12, 88)]
theorem l67 (L : Nat) : (S67 L).length = 67 := by
  unfold S67
  rw [List.length_append, lA]
  rfl
theorem moN_sh {L : Nat} {b : MH} (e : b.1 = S67 L) : (moN b).1 = SH L := by
  unfold moN
  rw [sm_5, sm_4, sm_3, sm_2, sm_1, sm_0, e, SH_ab]
  unfold S67
  simp only [List.append_assoc]
  rfl
def S6q (h h' : MH) : Prop := (h.1.length = h'.1.length ∧ 66 < h.1.length) ∧ ∀ j, gR h 66 j = gR h' 66 j
theorem S6q_nC {h h' : MH} {t n : Nat} (s : S6q h h') : S6q (nC h t n) (nC h' t n) := by
  obtain ⟨⟨s1, s2⟩, s3⟩ := s
  refine ⟨⟨by rw [hl_nC, hl_nC, s1], by rw [hl_nC]; omega⟩, fun j => ?_⟩
  rw [gR_nC, gR_nC, if_neg (by omega), if_neg (by omega)]
  exact s3 j
theorem S6q_sR {h h' : MH} {x y : Nat} {v : Value} (s : S6q h h') : S6q (sR h x y v) (sR h' x y v) := by
  refine ⟨s.1, fun j => ?_⟩
  rw [gR_sR, gR_sR, s.2 j]
theorem S6q_sI {h h' : MH} {x y : Nat} {v : Int32} (s : S6q h h') : S6q (sI h x y v) (sI h' x y v) := s
theorem S6q_0 {h h' : MH} (s : S6q h h') : S6q (moC0 h) (moC0 h') := by
  have e := s.1.1
  unfold moC0
  rw [e]
  exact S6q_sR (S6q_nC (S6q_sR (S6q_nC (S6q_sR (S6q_nC (S6q_sR (S6q_nC (S6q_sR (S6q_nC (S6q_sR (S6q_nC (S6q_sI (S6q_sR (S6q_nC (s)))))))))))))))
theorem S6q_1 {h h' : MH} (s : S6q h h') : S6q (moC1 h) (moC1 h') := by
  have e := s.1.1
  unfold moC1
  rw [e]
  exact S6q_sR (S6q_nC (S6q_sR (S6q_nC (S6q_sR (S6q_nC (S6q_sR (S6q_nC (S6q_sR (S6q_nC (S6q_sR (S6q_nC (S6q_sR (S6q_nC (S6q_sR (S6q_nC (s))))))))))))))))
theorem S6q_2 {h h' : MH} (s : S6q h h') : S6q (moC2 h) (moC2 h') := by
  have e := s.1.1
  unfold moC2
  rw [e]
  exact S6q_sR (S6q_nC (S6q_sR (S6q_nC (S6q_sR (S6q_nC (S6q_sR (S6q_nC (S6q_sR (S6q_nC (S6q_sR (S6q_nC (S6q_sR (S6q_nC (S6q_sR (S6q_nC (s))))))))))))))))
theorem S6q_3 {h h' : MH} (s : S6q h h') : S6q (moC3 h) (moC3 h') := by
  have e := s.1.1
  unfold moC3
  rw [e]
  exact S6q_sR (S6q_nC (S6q_sR (S6q_nC (S6q_sR (S6q_nC (S6q_sR (S6q_nC (S6q_sR (S6q_nC (S6q_sR (S6q_nC (S6q_sR (S6q_nC (S6q_sR (S6q_nC (s))))))))))))))))
theorem S6q_4 {h h' : MH} (s : S6q h h') : S6q (moC4 h) (moC4 h') := by
  have e := s.1.1
  unfold moC4
  rw [e]
  exact S6q_sR (S6q_nC (S6q_sR (S6q_nC (S6q_sR (S6q_nC (S6q_sR (S6q_nC (S6q_sR (S6q_nC (S6q_sR (S6q_nC (S6q_sR (S6q_nC (S6q_sR (S6q_nC (s))))))))))))))))
theorem S6q_5 {h h' : MH} (s : S6q h h') : S6q (moC5 h) (moC5 h') := by
  have e := s.1.1
  unfold moC5
  rw [e]
  exact S6q_sR (S6q_nC (S6q_sR (S6q_nC (S6q_sR (S6q_nC (S6q_sR (S6q_nC (S6q_sR (S6q_nC (S6q_sR (S6q_nC (s))))))))))))
theorem S6q_mo {h h' : MH} (s : S6q h h') : S6q (moN h) (moN h') := S6q_5 (S6q_4 (S6q_3 (S6q_2 (S6q_1 (S6q_0 (s))))))
def b00 : MH := (S67 0, fun _ _ => 0, fun _ _ => 0, fun _ _ => .null)
theorem moN_66 {L : Nat} {b : MH} (e : b.1 = S67 L) (r : ∀ j, gR b 66 j = .null) : ∀ q ∈ RTB, q.1 = 66 → gR (moN b) q.1 q.2.1 = .ref q.2.2 := fun q hq hz => by
  have s : S6q (moN b) (moN b00) := S6q_mo ⟨⟨by rw [e, l67]; exact (l67 0).symm, by rw [e, l67]; omega⟩, fun j => r j⟩
  have d : RTB.all (fun q => if q.1 = 66 then rfN (gR (moN b00) 66 q.2.1) == q.2.2 + 1 else true) = true := by decide +kernel
  have z := List.all_eq_true.mp d q hq
  rw [if_pos hz] at z
  rw [hz, s.2]
  exact rfN_e (beq_iff_eq.mp z)
def Z6 (h : MH) : Prop := ∀ a j, 67 ≤ a → gI h a j = 0
theorem Z6_nC {h : MH} {t n : Nat} (b : Z6 h) : Z6 (nC h t n) := fun a j ha => by
  rw [gI_nC]
  split
  · rfl
  · exact b a j ha
theorem Z6_sR {h : MH} {x y : Nat} {v : Value} (b : Z6 h) : Z6 (sR h x y v) := b
theorem Z6_sI {h : MH} {y : Nat} {v : Int32} (b : Z6 h) : Z6 (sI h 66 y v) := fun a j ha => by
  rw [gI_sI, if_neg (by omega)]
  exact b a j ha
theorem Z6_0 {h : MH} (b : Z6 h) : Z6 (moC0 h) := by
  unfold moC0
  exact Z6_sR (Z6_nC (Z6_sR (Z6_nC (Z6_sR (Z6_nC (Z6_sR (Z6_nC (Z6_sR (Z6_nC (Z6_sR (Z6_nC (Z6_sI (Z6_sR (Z6_nC (b)))))))))))))))
theorem Z6_1 {h : MH} (b : Z6 h) : Z6 (moC1 h) := by
  unfold moC1
  exact Z6_sR (Z6_nC (Z6_sR (Z6_nC (Z6_sR (Z6_nC (Z6_sR (Z6_nC (Z6_sR (Z6_nC (Z6_sR (Z6_nC (Z6_sR (Z6_nC (Z6_sR (Z6_nC (b))))))))))))))))
theorem Z6_2 {h : MH} (b : Z6 h) : Z6 (moC2 h) := by
  unfold moC2
  exact Z6_sR (Z6_nC (Z6_sR (Z6_nC (Z6_sR (Z6_nC (Z6_sR (Z6_nC (Z6_sR (Z6_nC (Z6_sR (Z6_nC (Z6_sR (Z6_nC (Z6_sR (Z6_nC (b))))))))))))))))
theorem Z6_3 {h : MH} (b : Z6 h) : Z6 (moC3 h) := by
  unfold moC3
  exact Z6_sR (Z6_nC (Z6_sR (Z6_nC (Z6_sR (Z6_nC (Z6_sR (Z6_nC (Z6_sR (Z6_nC (Z6_sR (Z6_nC (Z6_sR (Z6_nC (Z6_sR (Z6_nC (b))))))))))))))))
theorem Z6_4 {h : MH} (b : Z6 h) : Z6 (moC4 h) := by
  unfold moC4
  exact Z6_sR (Z6_nC (Z6_sR (Z6_nC (Z6_sR (Z6_nC (Z6_sR (Z6_nC (Z6_sR (Z6_nC (Z6_sR (Z6_nC (Z6_sR (Z6_nC (Z6_sR (Z6_nC (b))))))))))))))))
theorem Z6_5 {h : MH} (b : Z6 h) : Z6 (moC5 h) := by
  unfold moC5
  exact Z6_sR (Z6_nC (Z6_sR (Z6_nC (Z6_sR (Z6_nC (Z6_sR (Z6_nC (Z6_sR (Z6_nC (Z6_sR (Z6_nC (b))))))))))))
theorem moN_Z {h : MH} (b : Z6 h) : Z6 (moN h) := Z6_5 (Z6_4 (Z6_3 (Z6_2 (Z6_1 (Z6_0 (b))))))
def P3 (h : MH) : Prop := gI h 66 3 = -1 ∧ 66 < h.1.length
theorem P3_nC {h : MH} {t n : Nat} (b : P3 h) : P3 (nC h t n) := by
  obtain ⟨b1, b2⟩ := b
  exact ⟨by rw [gI_nC, if_neg (by omega)]; exact b1, by rw [hl_nC]; omega⟩
theorem P3_sR {h : MH} {x y : Nat} {v : Value} (b : P3 h) : P3 (sR h x y v) := b
theorem P3_sI {h : MH} (b : 66 < h.1.length) : P3 (sI h 66 3 (-1)) := ⟨by rw [gI_sI, if_pos ⟨rfl, rfl⟩], b⟩
theorem P3_0 {h : MH} (b : 66 < h.1.length) : P3 (moC0 h) := by
  unfold moC0
  exact P3_sR (P3_nC (P3_sR (P3_nC (P3_sR (P3_nC (P3_sR (P3_nC (P3_sR (P3_nC (P3_sR (P3_nC (P3_sI (by simp only [hl_sR, hl_nC]; omega)))))))))))))
theorem P3_1 {h : MH} (b : P3 h) : P3 (moC1 h) := by
  unfold moC1
  exact P3_sR (P3_nC (P3_sR (P3_nC (P3_sR (P3_nC (P3_sR (P3_nC (P3_sR (P3_nC (P3_sR (P3_nC (P3_sR (P3_nC (P3_sR (P3_nC (b))))))))))))))))
theorem P3_2 {h : MH} (b : P3 h) : P3 (moC2 h) := by
  unfold moC2
  exact P3_sR (P3_nC (P3_sR (P3_nC (P3_sR (P3_nC (P3_sR (P3_nC (P3_sR (P3_nC (P3_sR (P3_nC (P3_sR (P3_nC (P3_sR (P3_nC (b))))))))))))))))
theorem P3_3 {h : MH} (b : P3 h) : P3 (moC3 h) := by
  unfold moC3
  exact P3_sR (P3_nC (P3_sR (P3_nC (P3_sR (P3_nC (P3_sR (P3_nC (P3_sR (P3_nC (P3_sR (P3_nC (P3_sR (P3_nC (P3_sR (P3_nC (b))))))))))))))))
theorem P3_4 {h : MH} (b : P3 h) : P3 (moC4 h) := by
  unfold moC4
  exact P3_sR (P3_nC (P3_sR (P3_nC (P3_sR (P3_nC (P3_sR (P3_nC (P3_sR (P3_nC (P3_sR (P3_nC (P3_sR (P3_nC (P3_sR (P3_nC (b))))))))))))))))
theorem P3_5 {h : MH} (b : P3 h) : P3 (moC5 h) := by
  unfold moC5
  exact P3_sR (P3_nC (P3_sR (P3_nC (P3_sR (P3_nC (P3_sR (P3_nC (P3_sR (P3_nC (P3_sR (P3_nC (b))))))))))))
theorem moN_3 {h : MH} (b : 66 < h.1.length) : gI (moN h) 66 3 = -1 := (P3_5 (P3_4 (P3_3 (P3_2 (P3_1 (P3_0 (b))))))).1
theorem moN_St {L : Nat} {b : MH} (e : b.1 = S67 L) (r0 : ∀ j, gR b 66 j = .null) (r : ∀ q ∈ RTB, q.1 < 66 → gR b q.1 q.2.1 = .ref q.2.2) : St (moN b) := by
  have hk := moN_Ke (h := b) (by rw [e, l67]; omega)
  refine ⟨⟨L, [], by rw [moN_sh e, List.append_nil]⟩, fun q hq => ?_⟩
  have d : ∀ q ∈ RTB, q.1 < 66 ∨ q.1 = 66 := by decide +kernel
  rcases d q hq with z | z
  · rw [(hk.2.2 _ _ z).2]; exact r q hq z
  · exact moN_66 e r0 q hq z
/-! it begins with no orchard -/
theorem lp_cl2 : ∀ m i k, i + m = 12 → St k → (∀ j, j < i → gI k 94 (15 + j) = -1) → ∃ k', rn 205 3 B_205_35 [some (.ref 66), some (.int (nI i))] [] k = some (none, k') ∧ (∀ j, j < 12 → gI k' 94 (15 + j) = -1) ∧ (∀ j, j < 15 → gI k' 94 j = gI k 94 j) ∧ St k' ∧ Sm k k' [(94, none)] := by
  intro m
  induction m with
  | zero =>
    intro i k hi hS h1
    obtain rfl : i = 12 := by omega
    refine ⟨k, ?_, h1, fun j _ => rfl, hS, Sm.rf k _⟩
    rw [B_205_35]
    simp (disch := first | assumption | exact b2i_01 _ | decide | omega | (simp only [kd_sI, ln_sI, hl_sI, gL_sI, gR_sI, kd_sL, ln_sL, hl_sL, gI_sL, gR_sL, kd_sR, ln_sR, hl_sR, gI_sR, gL_sR, kd_cpI, ln_cpI, hl_cpI, gL_cpI, gR_cpI, gI_cpI, gI_sI, gL_sL, gR_sR, St_sI, St_sL, St_cpI, Nat.reduceEqDiff, Nat.reduceAdd, eq_self, false_and, and_false, true_and, and_true, and_self, if_true, if_false, false_or, or_false, true_or, or_true, not_true_eq_false, not_false_eq_true, reduceIte, K_66, F_66_0, F_66_10, F_66_11, F_66_12, F_66_13, F_66_14, F_66_15, F_66_16, F_66_17, F_66_18, F_66_25, F_66_26, F_66_27, F_66_28, F_66_29, F_66_30, F_66_31, F_66_32, F_66_33, F_66_34, F_66_35, F_66_36, F_66_37, F_66_38, F_66_39, F_66_60, F_66_61, F_66_62, F_66_63, F_66_66, F_66_68, F_66_69, F_66_71, F_66_72, F_66_73, F_66_74, F_66_77, F_66_78, F_66_79, F_66_80, F_66_81, F_66_84, F_66_85, F_66_86, F_66_87, hS, show ((12 : Int32) ≤ nI 12) = True by decide] <;> first | done | decide | omega | fail) | fail) only [B_205_0, e_aload_n_0, e_iconst_1, P_1258, P_1256, e_iconst_0, e_istore_n_1, clr_i, clr_l, clr_a, clr_n, e_gotow, T_205_12, B_205_12, e_iload_n_1, e_bipush_12, e_ic_ge, G_1262, e_iconst_3, e_iadd, e_iconst_m1, e_iastore, e_iinc_1_1, e_goto, T_205_33, B_205_33, T_205_35, e_bipush_15, T_205_57, B_205_57, R_205, kd_sI, ln_sI, hl_sI, gL_sI, gR_sI, kd_sL, ln_sL, hl_sL, gI_sL, gR_sL, kd_sR, ln_sR, hl_sR, gI_sR, gL_sR, kd_cpI, ln_cpI, hl_cpI, gL_cpI, gR_cpI, gI_cpI, gI_sI, gL_sL, gR_sR, St_sI, St_sL, St_cpI, Nat.reduceEqDiff, Nat.reduceAdd, eq_self, false_and, and_false, true_and, and_true, and_self, if_true, if_false, false_or, or_false, true_or, or_true, not_true_eq_false, not_false_eq_true, reduceIte, K_66, F_66_0, F_66_10, F_66_11, F_66_12, F_66_13, F_66_14, F_66_15, F_66_16, F_66_17, F_66_18, F_66_25, F_66_26, F_66_27, F_66_28, F_66_29, F_66_30, F_66_31, F_66_32, F_66_33, F_66_34, F_66_35, F_66_36, F_66_37, F_66_38, F_66_39, F_66_60, F_66_61, F_66_62, F_66_63, F_66_66, F_66_68, F_66_69, F_66_71, F_66_72, F_66_73, F_66_74, F_66_77, F_66_78, F_66_79, F_66_80, F_66_81, F_66_84, F_66_85, F_66_86, F_66_87, show ((12 : Int32) ≤ nI 12) = True by decide]
  | succ m ih =>
    intro i k hi hS h1
    have lt : ((12 : Int32) ≤ nI i) = False := (eq_false (by simp (disch := omega) only [nI_lit, nI_add, lt_nI, le_nI, eq_nI] <;> omega) : ((12 : Int32) ≤ nI i) = False)
    have e15 : (15 : Int32) + nI i = nI (15 + i) := by rw [nI_lit, nI_add]
    have b : inBd (nI (15 + i)) 32 = true := inBd_nI (by omega) (by omega)
    have t : (nI (15 + i)).toNatClampNeg = 15 + i := tc_nI (by omega)
    have S1 : St (sI k 94 (15 + i) (-1)) := by simpa only [kd_sI, ln_sI, hl_sI, gL_sI, gR_sI, kd_sL, ln_sL, hl_sL, gI_sL, gR_sL, kd_sR, ln_sR, hl_sR, gI_sR, gL_sR, kd_cpI, ln_cpI, hl_cpI, gL_cpI, gR_cpI, gI_cpI, gI_sI, gL_sL, gR_sR, St_sI, St_sL, St_cpI, Nat.reduceEqDiff, Nat.reduceAdd, eq_self, false_and, and_false, true_and, and_true, and_self, if_true, if_false, false_or, or_false, true_or, or_true, not_true_eq_false, not_false_eq_true, reduceIte] using hS
    obtain ⟨k', z1, z2, z3, z4, z5⟩ := ih (i + 1) (sI k 94 (15 + i) (-1)) (by omega) S1 (fun j hj => by
      rw [gI_sI]
      by_cases c : j = i
      · rw [if_pos ⟨rfl, by omega⟩]
      · rw [if_neg (by omega)]; exact h1 j (by omega))
    refine ⟨k', ?_, z2, fun j hj => by rw [z3 j hj, gI_sI, if_neg (by omega)], z4, ((Sm.rf k _).sI rfl).trans z5⟩
    rw [← z1]
    conv => lhs; rw [B_205_35]
    simp (disch := first | assumption | exact b2i_01 _ | decide | omega | (simp only [kd_sI, ln_sI, hl_sI, gL_sI, gR_sI, kd_sL, ln_sL, hl_sL, gI_sL, gR_sL, kd_sR, ln_sR, hl_sR, gI_sR, gL_sR, kd_cpI, ln_cpI, hl_cpI, gL_cpI, gR_cpI, gI_cpI, gI_sI, gL_sL, gR_sR, St_sI, St_sL, St_cpI, Nat.reduceEqDiff, Nat.reduceAdd, eq_self, false_and, and_false, true_and, and_true, and_self, if_true, if_false, false_or, or_false, true_or, or_true, not_true_eq_false, not_false_eq_true, reduceIte, K_66, F_66_0, F_66_10, F_66_11, F_66_12, F_66_13, F_66_14, F_66_15, F_66_16, F_66_17, F_66_18, F_66_25, F_66_26, F_66_27, F_66_28, F_66_29, F_66_30, F_66_31, F_66_32, F_66_33, F_66_34, F_66_35, F_66_36, F_66_37, F_66_38, F_66_39, F_66_60, F_66_61, F_66_62, F_66_63, F_66_66, F_66_68, F_66_69, F_66_71, F_66_72, F_66_73, F_66_74, F_66_77, F_66_78, F_66_79, F_66_80, F_66_81, F_66_84, F_66_85, F_66_86, F_66_87, K_94, N_94, hS, lt, e15, b, t, nI_1] <;> first | done | decide | omega | fail) | fail) only [B_205_0, e_aload_n_0, e_iconst_1, P_1258, P_1256, e_iconst_0, e_istore_n_1, clr_i, clr_l, clr_a, clr_n, e_gotow, T_205_12, B_205_12, e_iload_n_1, e_bipush_12, e_ic_ge, G_1262, e_iconst_3, e_iadd, e_iconst_m1, e_iastore, e_iinc_1_1, e_goto, T_205_33, B_205_33, T_205_35, e_bipush_15, T_205_57, B_205_57, R_205, kd_sI, ln_sI, hl_sI, gL_sI, gR_sI, kd_sL, ln_sL, hl_sL, gI_sL, gR_sL, kd_sR, ln_sR, hl_sR, gI_sR, gL_sR, kd_cpI, ln_cpI, hl_cpI, gL_cpI, gR_cpI, gI_cpI, gI_sI, gL_sL, gR_sR, St_sI, St_sL, St_cpI, Nat.reduceEqDiff, Nat.reduceAdd, eq_self, false_and, and_false, true_and, and_true, and_self, if_true, if_false, false_or, or_false, true_or, or_true, not_true_eq_false, not_false_eq_true, reduceIte, K_66, F_66_0, F_66_10, F_66_11, F_66_12, F_66_13, F_66_14, F_66_15, F_66_16, F_66_17, F_66_18, F_66_25, F_66_26, F_66_27, F_66_28, F_66_29, F_66_30, F_66_31, F_66_32, F_66_33, F_66_34, F_66_35, F_66_36, F_66_37, F_66_38, F_66_39, F_66_60, F_66_61, F_66_62, F_66_63, F_66_66, F_66_68, F_66_69, F_66_71, F_66_72, F_66_73, F_66_74, F_66_77, F_66_78, F_66_79, F_66_80, F_66_81, F_66_84, F_66_85, F_66_86, F_66_87, K_94, N_94, lt, e15, b, t, nI_1]
theorem lp_cl1 : ∀ m i k, i + m = 12 → St k → (∀ j, j < i → gI k 94 (3 + j) = -1) → ∃ k', rn 205 3 B_205_12 [some (.ref 66), some (.int (nI i))] [] k = rn 205 3 B_205_33 [some (.ref 66), some (.int (nI 12))] [] k' ∧ (∀ j, j < 12 → gI k' 94 (3 + j) = -1) ∧ (∀ j, j < 3 → gI k' 94 j = gI k 94 j) ∧ St k' ∧ Sm k k' [(94, none)] := by
  intro m
  induction m with
  | zero =>
    intro i k hi hS h1
    obtain rfl : i = 12 := by omega
    refine ⟨k, ?_, h1, fun j _ => rfl, hS, Sm.rf k _⟩
    conv => lhs; rw [B_205_12]
    simp (disch := first | assumption | exact b2i_01 _ | decide | omega | (simp only [kd_sI, ln_sI, hl_sI, gL_sI, gR_sI, kd_sL, ln_sL, hl_sL, gI_sL, gR_sL, kd_sR, ln_sR, hl_sR, gI_sR, gL_sR, kd_cpI, ln_cpI, hl_cpI, gL_cpI, gR_cpI, gI_cpI, gI_sI, gL_sL, gR_sR, St_sI, St_sL, St_cpI, Nat.reduceEqDiff, Nat.reduceAdd, eq_self, false_and, and_false, true_and, and_true, and_self, if_true, if_false, false_or, or_false, true_or, or_true, not_true_eq_false, not_false_eq_true, reduceIte, K_66, F_66_0, F_66_10, F_66_11, F_66_12, F_66_13, F_66_14, F_66_15, F_66_16, F_66_17, F_66_18, F_66_25, F_66_26, F_66_27, F_66_28, F_66_29, F_66_30, F_66_31, F_66_32, F_66_33, F_66_34, F_66_35, F_66_36, F_66_37, F_66_38, F_66_39, F_66_60, F_66_61, F_66_62, F_66_63, F_66_66, F_66_68, F_66_69, F_66_71, F_66_72, F_66_73, F_66_74, F_66_77, F_66_78, F_66_79, F_66_80, F_66_81, F_66_84, F_66_85, F_66_86, F_66_87, hS, show ((12 : Int32) ≤ nI 12) = True by decide] <;> first | done | decide | omega | fail) | fail) only [B_205_0, e_aload_n_0, e_iconst_1, P_1258, P_1256, e_iconst_0, e_istore_n_1, clr_i, clr_l, clr_a, clr_n, e_gotow, T_205_12, e_iload_n_1, e_bipush_12, e_ic_ge, G_1262, e_iconst_3, e_iadd, e_iconst_m1, e_iastore, e_iinc_1_1, e_goto, T_205_33, T_205_35, B_205_35, e_bipush_15, T_205_57, B_205_57, R_205, kd_sI, ln_sI, hl_sI, gL_sI, gR_sI, kd_sL, ln_sL, hl_sL, gI_sL, gR_sL, kd_sR, ln_sR, hl_sR, gI_sR, gL_sR, kd_cpI, ln_cpI, hl_cpI, gL_cpI, gR_cpI, gI_cpI, gI_sI, gL_sL, gR_sR, St_sI, St_sL, St_cpI, Nat.reduceEqDiff, Nat.reduceAdd, eq_self, false_and, and_false, true_and, and_true, and_self, if_true, if_false, false_or, or_false, true_or, or_true, not_true_eq_false, not_false_eq_true, reduceIte, K_66, F_66_0, F_66_10, F_66_11, F_66_12, F_66_13, F_66_14, F_66_15, F_66_16, F_66_17, F_66_18, F_66_25, F_66_26, F_66_27, F_66_28, F_66_29, F_66_30, F_66_31, F_66_32, F_66_33, F_66_34, F_66_35, F_66_36, F_66_37, F_66_38, F_66_39, F_66_60, F_66_61, F_66_62, F_66_63, F_66_66, F_66_68, F_66_69, F_66_71, F_66_72, F_66_73, F_66_74, F_66_77, F_66_78, F_66_79, F_66_80, F_66_81, F_66_84, F_66_85, F_66_86, F_66_87, show ((12 : Int32) ≤ nI 12) = True by decide]
  | succ m ih =>
    intro i k hi hS h1
    have lt : ((12 : Int32) ≤ nI i) = False := (eq_false (by simp (disch := omega) only [nI_lit, nI_add, lt_nI, le_nI, eq_nI] <;> omega) : ((12 : Int32) ≤ nI i) = False)
    have e3 : (3 : Int32) + nI i = nI (3 + i) := by rw [nI_lit, nI_add]
    have b : inBd (nI (3 + i)) 32 = true := inBd_nI (by omega) (by omega)
    have t : (nI (3 + i)).toNatClampNeg = 3 + i := tc_nI (by omega)
    have S1 : St (sI k 94 (3 + i) (-1)) := by simpa only [kd_sI, ln_sI, hl_sI, gL_sI, gR_sI, kd_sL, ln_sL, hl_sL, gI_sL, gR_sL, kd_sR, ln_sR, hl_sR, gI_sR, gL_sR, kd_cpI, ln_cpI, hl_cpI, gL_cpI, gR_cpI, gI_cpI, gI_sI, gL_sL, gR_sR, St_sI, St_sL, St_cpI, Nat.reduceEqDiff, Nat.reduceAdd, eq_self, false_and, and_false, true_and, and_true, and_self, if_true, if_false, false_or, or_false, true_or, or_true, not_true_eq_false, not_false_eq_true, reduceIte] using hS
    obtain ⟨k', z1, z2, z3, z4, z5⟩ := ih (i + 1) (sI k 94 (3 + i) (-1)) (by omega) S1 (fun j hj => by
      rw [gI_sI]
      by_cases c : j = i
      · rw [if_pos ⟨rfl, by omega⟩]
      · rw [if_neg (by omega)]; exact h1 j (by omega))
    refine ⟨k', ?_, z2, fun j hj => by rw [z3 j hj, gI_sI, if_neg (by omega)], z4, ((Sm.rf k _).sI rfl).trans z5⟩
    rw [← z1]
    conv => lhs; rw [B_205_12]
    simp (disch := first | assumption | exact b2i_01 _ | decide | omega | (simp only [kd_sI, ln_sI, hl_sI, gL_sI, gR_sI, kd_sL, ln_sL, hl_sL, gI_sL, gR_sL, kd_sR, ln_sR, hl_sR, gI_sR, gL_sR, kd_cpI, ln_cpI, hl_cpI, gL_cpI, gR_cpI, gI_cpI, gI_sI, gL_sL, gR_sR, St_sI, St_sL, St_cpI, Nat.reduceEqDiff, Nat.reduceAdd, eq_self, false_and, and_false, true_and, and_true, and_self, if_true, if_false, false_or, or_false, true_or, or_true, not_true_eq_false, not_false_eq_true, reduceIte, K_66, F_66_0, F_66_10, F_66_11, F_66_12, F_66_13, F_66_14, F_66_15, F_66_16, F_66_17, F_66_18, F_66_25, F_66_26, F_66_27, F_66_28, F_66_29, F_66_30, F_66_31, F_66_32, F_66_33, F_66_34, F_66_35, F_66_36, F_66_37, F_66_38, F_66_39, F_66_60, F_66_61, F_66_62, F_66_63, F_66_66, F_66_68, F_66_69, F_66_71, F_66_72, F_66_73, F_66_74, F_66_77, F_66_78, F_66_79, F_66_80, F_66_81, F_66_84, F_66_85, F_66_86, F_66_87, K_94, N_94, hS, lt, e3, b, t, nI_1] <;> first | done | decide | omega | fail) | fail) only [B_205_0, e_aload_n_0, e_iconst_1, P_1258, P_1256, e_iconst_0, e_istore_n_1, clr_i, clr_l, clr_a, clr_n, e_gotow, T_205_12, e_iload_n_1, e_bipush_12, e_ic_ge, G_1262, e_iconst_3, e_iadd, e_iconst_m1, e_iastore, e_iinc_1_1, e_goto, T_205_33, T_205_35, e_bipush_15, T_205_57, B_205_57, R_205, kd_sI, ln_sI, hl_sI, gL_sI, gR_sI, kd_sL, ln_sL, hl_sL, gI_sL, gR_sL, kd_sR, ln_sR, hl_sR, gI_sR, gL_sR, kd_cpI, ln_cpI, hl_cpI, gL_cpI, gR_cpI, gI_cpI, gI_sI, gL_sL, gR_sR, St_sI, St_sL, St_cpI, Nat.reduceEqDiff, Nat.reduceAdd, eq_self, false_and, and_false, true_and, and_true, and_self, if_true, if_false, false_or, or_false, true_or, or_true, not_true_eq_false, not_false_eq_true, reduceIte, K_66, F_66_0, F_66_10, F_66_11, F_66_12, F_66_13, F_66_14, F_66_15, F_66_16, F_66_17, F_66_18, F_66_25, F_66_26, F_66_27, F_66_28, F_66_29, F_66_30, F_66_31, F_66_32, F_66_33, F_66_34, F_66_35, F_66_36, F_66_37, F_66_38, F_66_39, F_66_60, F_66_61, F_66_62, F_66_63, F_66_66, F_66_68, F_66_69, F_66_71, F_66_72, F_66_73, F_66_74, F_66_77, F_66_78, F_66_79, F_66_80, F_66_81, F_66_84, F_66_85, F_66_86, F_66_87, K_94, N_94, lt, e3, b, t, nI_1]
def WCl : WL := [(66, some 58), (66, some 56), (94, none)]
theorem s_Mo_clear {k : MH} (hS : St k) (h0 : ∀ j, j < 3 → gI k 94 j = 0) : ∃ k', cal 205 [.ref 66] 4 k = some (none, k') ∧ gI k' 66 58 = 1 ∧ gI k' 66 56 = 1 ∧ (∀ j, j < 27 → gI k' 94 j = if j < 3 then 0 else -1) ∧ St k' ∧ Sm k k' WCl := by
  have S0 : St (sI (sI k 66 58 1) 66 56 1) := by simpa only [kd_sI, ln_sI, hl_sI, gL_sI, gR_sI, kd_sL, ln_sL, hl_sL, gI_sL, gR_sL, kd_sR, ln_sR, hl_sR, gI_sR, gL_sR, kd_cpI, ln_cpI, hl_cpI, gL_cpI, gR_cpI, gI_cpI, gI_sI, gL_sL, gR_sR, St_sI, St_sL, St_cpI, Nat.reduceEqDiff, Nat.reduceAdd, eq_self, false_and, and_false, true_and, and_true, and_self, if_true, if_false, false_or, or_false, true_or, or_true, not_true_eq_false, not_false_eq_true, reduceIte] using hS
  obtain ⟨k1, a1, a2, a3, a4, a5⟩ := lp_cl1 12 0 (sI (sI k 66 58 1) 66 56 1) (by omega) S0 (fun j hj => absurd hj (by omega))
  obtain ⟨k2, b1, b2, b3, b4, b5⟩ := lp_cl2 12 0 k1 (by omega) a4 (fun j hj => absurd hj (by omega))
  refine ⟨k2, ?_, ?_, ?_, fun j hj => ?_, b4, ((((Sm.rf k WCl).sI rfl).sI rfl).trans (a5.mono (by unfold WCl; simp))).trans (b5.mono (by unfold WCl; simp))⟩
  · rw [C_205 66 4 k (K_66 hS) (by decide) (by omega), ← b1]
    have e33 : rn 205 3 B_205_33 [some (.ref 66), some (.int (nI 12))] [] k1 = rn 205 3 B_205_35 [some (.ref 66), some (.int (nI 0))] [] k1 := by
      conv => lhs; rw [B_205_33]
      have hS := a4
      simp (disch := first | assumption | exact b2i_01 _ | decide | omega | (simp only [kd_sI, ln_sI, hl_sI, gL_sI, gR_sI, kd_sL, ln_sL, hl_sL, gI_sL, gR_sL, kd_sR, ln_sR, hl_sR, gI_sR, gL_sR, kd_cpI, ln_cpI, hl_cpI, gL_cpI, gR_cpI, gI_cpI, gI_sI, gL_sL, gR_sR, St_sI, St_sL, St_cpI, Nat.reduceEqDiff, Nat.reduceAdd, eq_self, false_and, and_false, true_and, and_true, and_self, if_true, if_false, false_or, or_false, true_or, or_true, not_true_eq_false, not_false_eq_true, reduceIte, K_66, F_66_0, F_66_10, F_66_11, F_66_12, F_66_13, F_66_14, F_66_15, F_66_16, F_66_17, F_66_18, F_66_25, F_66_26, F_66_27, F_66_28, F_66_29, F_66_30, F_66_31, F_66_32, F_66_33, F_66_34, F_66_35, F_66_36, F_66_37, F_66_38, F_66_39, F_66_60, F_66_61, F_66_62, F_66_63, F_66_66, F_66_68, F_66_69, F_66_71, F_66_72, F_66_73, F_66_74, F_66_77, F_66_78, F_66_79, F_66_80, F_66_81, F_66_84, F_66_85, F_66_86, F_66_87, hS] <;> first | done | decide | omega | fail) | fail) only [B_205_0, e_aload_n_0, e_iconst_1, P_1258, P_1256, e_iconst_0, e_istore_n_1, clr_i, clr_l, clr_a, clr_n, e_gotow, T_205_12, B_205_12, e_iload_n_1, e_bipush_12, e_ic_ge, G_1262, e_iconst_3, e_iadd, e_iconst_m1, e_iastore, e_iinc_1_1, e_goto, T_205_33, T_205_35, e_bipush_15, T_205_57, B_205_57, R_205, kd_sI, ln_sI, hl_sI, gL_sI, gR_sI, kd_sL, ln_sL, hl_sL, gI_sL, gR_sL, kd_sR, ln_sR, hl_sR, gI_sR, gL_sR, kd_cpI, ln_cpI, hl_cpI, gL_cpI, gR_cpI, gI_cpI, gI_sI, gL_sL, gR_sR, St_sI, St_sL, St_cpI, Nat.reduceEqDiff, Nat.reduceAdd, eq_self, false_and, and_false, true_and, and_true, and_self, if_true, if_false, false_or, or_false, true_or, or_true, not_true_eq_false, not_false_eq_true, reduceIte, K_66, F_66_0, F_66_10, F_66_11, F_66_12, F_66_13, F_66_14, F_66_15, F_66_16, F_66_17, F_66_18, F_66_25, F_66_26, F_66_27, F_66_28, F_66_29, F_66_30, F_66_31, F_66_32, F_66_33, F_66_34, F_66_35, F_66_36, F_66_37, F_66_38, F_66_39, F_66_60, F_66_61, F_66_62, F_66_63, F_66_66, F_66_68, F_66_69, F_66_71, F_66_72, F_66_73, F_66_74, F_66_77, F_66_78, F_66_79, F_66_80, F_66_81, F_66_84, F_66_85, F_66_86, F_66_87]
      rfl
    rw [← e33, ← a1]
    conv => lhs; rw [B_205_0]
    simp (disch := first | assumption | exact b2i_01 _ | decide | omega | (simp only [kd_sI, ln_sI, hl_sI, gL_sI, gR_sI, kd_sL, ln_sL, hl_sL, gI_sL, gR_sL, kd_sR, ln_sR, hl_sR, gI_sR, gL_sR, kd_cpI, ln_cpI, hl_cpI, gL_cpI, gR_cpI, gI_cpI, gI_sI, gL_sL, gR_sR, St_sI, St_sL, St_cpI, Nat.reduceEqDiff, Nat.reduceAdd, eq_self, false_and, and_false, true_and, and_true, and_self, if_true, if_false, false_or, or_false, true_or, or_true, not_true_eq_false, not_false_eq_true, reduceIte, K_66, F_66_0, F_66_10, F_66_11, F_66_12, F_66_13, F_66_14, F_66_15, F_66_16, F_66_17, F_66_18, F_66_25, F_66_26, F_66_27, F_66_28, F_66_29, F_66_30, F_66_31, F_66_32, F_66_33, F_66_34, F_66_35, F_66_36, F_66_37, F_66_38, F_66_39, F_66_60, F_66_61, F_66_62, F_66_63, F_66_66, F_66_68, F_66_69, F_66_71, F_66_72, F_66_73, F_66_74, F_66_77, F_66_78, F_66_79, F_66_80, F_66_81, F_66_84, F_66_85, F_66_86, F_66_87, hS] <;> first | done | decide | omega | fail) | fail) only [e_aload_n_0, e_iconst_1, P_1258, P_1256, e_iconst_0, e_istore_n_1, clr_i, clr_l, clr_a, clr_n, e_gotow, T_205_12, e_iload_n_1, e_bipush_12, e_ic_ge, G_1262, e_iconst_3, e_iadd, e_iconst_m1, e_iastore, e_iinc_1_1, e_goto, T_205_33, B_205_33, T_205_35, B_205_35, e_bipush_15, T_205_57, B_205_57, R_205, kd_sI, ln_sI, hl_sI, gL_sI, gR_sI, kd_sL, ln_sL, hl_sL, gI_sL, gR_sL, kd_sR, ln_sR, hl_sR, gI_sR, gL_sR, kd_cpI, ln_cpI, hl_cpI, gL_cpI, gR_cpI, gI_cpI, gI_sI, gL_sL, gR_sR, St_sI, St_sL, St_cpI, Nat.reduceEqDiff, Nat.reduceAdd, eq_self, false_and, and_false, true_and, and_true, and_self, if_true, if_false, false_or, or_false, true_or, or_true, not_true_eq_false, not_false_eq_true, reduceIte, K_66, F_66_0, F_66_10, F_66_11, F_66_12, F_66_13, F_66_14, F_66_15, F_66_16, F_66_17, F_66_18, F_66_25, F_66_26, F_66_27, F_66_28, F_66_29, F_66_30, F_66_31, F_66_32, F_66_33, F_66_34, F_66_35, F_66_36, F_66_37, F_66_38, F_66_39, F_66_60, F_66_61, F_66_62, F_66_63, F_66_66, F_66_68, F_66_69, F_66_71, F_66_72, F_66_73, F_66_74, F_66_77, F_66_78, F_66_79, F_66_80, F_66_81, F_66_84, F_66_85, F_66_86, F_66_87]
    rfl
  · rw [b5.I rfl, a5.I rfl]
    simp only [kd_sI, ln_sI, hl_sI, gL_sI, gR_sI, kd_sL, ln_sL, hl_sL, gI_sL, gR_sL, kd_sR, ln_sR, hl_sR, gI_sR, gL_sR, kd_cpI, ln_cpI, hl_cpI, gL_cpI, gR_cpI, gI_cpI, gI_sI, gL_sL, gR_sR, St_sI, St_sL, St_cpI, Nat.reduceEqDiff, Nat.reduceAdd, eq_self, false_and, and_false, true_and, and_true, and_self, if_true, if_false, false_or, or_false, true_or, or_true, not_true_eq_false, not_false_eq_true, reduceIte]
  · rw [b5.I rfl, a5.I rfl]
    simp only [kd_sI, ln_sI, hl_sI, gL_sI, gR_sI, kd_sL, ln_sL, hl_sL, gI_sL, gR_sL, kd_sR, ln_sR, hl_sR, gI_sR, gL_sR, kd_cpI, ln_cpI, hl_cpI, gL_cpI, gR_cpI, gI_cpI, gI_sI, gL_sL, gR_sR, St_sI, St_sL, St_cpI, Nat.reduceEqDiff, Nat.reduceAdd, eq_self, false_and, and_false, true_and, and_true, and_self, if_true, if_false, false_or, or_false, true_or, or_true, not_true_eq_false, not_false_eq_true, reduceIte]
  · by_cases c : j < 3
    · rw [if_pos c, b3 j (by omega), a3 j c]
      simp only [kd_sI, ln_sI, hl_sI, gL_sI, gR_sI, kd_sL, ln_sL, hl_sL, gI_sL, gR_sL, kd_sR, ln_sR, hl_sR, gI_sR, gL_sR, kd_cpI, ln_cpI, hl_cpI, gL_cpI, gR_cpI, gI_cpI, gI_sI, gL_sL, gR_sR, St_sI, St_sL, St_cpI, Nat.reduceEqDiff, Nat.reduceAdd, eq_self, false_and, and_false, true_and, and_true, and_self, if_true, if_false, false_or, or_false, true_or, or_true, not_true_eq_false, not_false_eq_true, reduceIte]
      exact h0 j c
    · rw [if_neg c]
      by_cases d : j < 15
      · rw [b3 j d]
        have := a2 (j - 3) (by omega)
        rw [show 3 + (j - 3) = j by omega] at this
        exact this
      · have := b2 (j - 15) (by omega)
        rw [show 15 + (j - 15) = j by omega] at this
        exact this
