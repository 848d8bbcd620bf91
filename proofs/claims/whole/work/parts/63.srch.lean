/-! cells that are made later -/
theorem hl_nC (h : MH) (t n : Nat) : (nC h t n).1.length = h.1.length + 1 := by
  show (h.1 ++ [(t, n)]).length = _
  simp
theorem get_app {l : List (Nat × Nat)} {q : Nat × Nat} {x : Nat} : (l ++ [q]).getD x (99, 0) = if x = l.length then q else l.getD x (99, 0) := by
  rw [List.getD_eq_getElem?_getD, List.getD_eq_getElem?_getD]
  by_cases c : x = l.length
  · rw [if_pos c, c, List.getElem?_append_right (Nat.le_refl _)]; simp
  · rw [if_neg c]
    rcases Nat.lt_or_ge x l.length with d | d
    · rw [List.getElem?_append_left d]
    · rw [List.getElem?_eq_none (by simp; omega), List.getElem?_eq_none d]
theorem kdN (h : MH) (t n x : Nat) : kd (nC h t n) x = if x = h.1.length then t else kd h x := by
  unfold kd
  show ((h.1 ++ [(t, n)]).getD x (99, 0)).1 = _
  rw [get_app]
  split <;> rfl
theorem lnN (h : MH) (t n x : Nat) : ln (nC h t n) x = if x = h.1.length then n else ln h x := by
  unfold ln
  show ((h.1 ++ [(t, n)]).getD x (99, 0)).2 = _
  rw [get_app]
  split <;> rfl
theorem gI_nC (h : MH) (t n x y : Nat) : gI (nC h t n) x y = if x = h.1.length then 0 else gI h x y := rfl
theorem gL_nC (h : MH) (t n x y : Nat) : gL (nC h t n) x y = if x = h.1.length then 0 else gL h x y := rfl
theorem gR_nC (h : MH) (t n x y : Nat) : gR (nC h t n) x y = if x = h.1.length then .null else gR h x y := rfl
theorem kdlt {h : MH} {x : Nat} (q : ¬ kd h x = 99) : x < h.1.length := by
  rcases Nat.lt_or_ge x h.1.length with c | c
  · exact c
  · exfalso
    apply q
    unfold kd
    rw [List.getD_eq_getElem?_getD, List.getElem?_eq_none c]
    rfl
theorem St_len {h : MH} (hS : St h) : 112 ≤ h.1.length := by
  obtain ⟨⟨L, ext, e⟩, -⟩ := hS
  rw [e, List.length_append]
  have : (SH L).length = 112 := rfl
  omega
theorem St_ext {h h' : MH} (hS : St h) (e : ∃ ext, h'.1 = h.1 ++ ext) (r : ∀ q ∈ RTB, gR h' q.1 q.2.1 = gR h q.1 q.2.1) : St h' := by
  obtain ⟨⟨L, ext, e1⟩, e2⟩ := hS
  obtain ⟨ext', e3⟩ := e
  exact ⟨⟨L, ext ++ ext', by rw [e3, e1, List.append_assoc]⟩, fun q hq => (r q hq).trans (e2 q hq)⟩
theorem rtb_lt : RTB.all (fun q => decide (q.1 < 112) && !(q.1 == 2 && q.2.1 == 9) && !(q.1 == 64 && q.2.1 == 0)) = true := by decide +kernel
/-- the searches' cells -/
def SeO (a : Nat) (h : MH) : Prop := gR h 2 9 = .ref a ∧ 112 ≤ a ∧ kd h a = 7 ∧ (gR h a 0 = .ref (a + 1) ∧ kd h (a + 1) = 22 ∧ ln h (a + 1) = 4096) ∧ (gR h a 1 = .ref (a + 2) ∧ kd h (a + 2) = 22 ∧ ln h (a + 2) = 4096) ∧ (gR h a 2 = .ref (a + 3) ∧ kd h (a + 3) = 20 ∧ ln h (a + 3) = 102)
theorem q_searches {o p : Nat} {L : LD} {h : MH} (hI : INV o p L h) {μ : Nat} (hμ : 4 < μ) : ∃ (a : Nat) (h' : MH), cal 166 [.ref 2] μ h = some (some (.ref a), h') ∧ INV o p L h' ∧ SeO a h' ∧ Fr h h' [(2, some 9)] := by
  have hS := hI.1.1.1
  rcases hI.2.2.2.1 with q | ⟨a, q⟩
  · have len := St_len hS
    obtain ⟨a, ea⟩ : ∃ a, h.1.length = a := ⟨_, rfl⟩
    have n1 : (a = a + 1) = False := eq_false (by omega)
    have n2 : (a = a + 2) = False := eq_false (by omega)
    have n3 : (a = a + 3) = False := eq_false (by omega)
    have n4 : (a + 1 = a) = False := eq_false (by omega)
    have n5 : (a + 2 = a) = False := eq_false (by omega)
    have n6 : (a + 3 = a) = False := eq_false (by omega)
    have n7 : (a + 1 = a + 2) = False := eq_false (by omega)
    have n8 : (a + 1 = a + 3) = False := eq_false (by omega)
    have n9 : (a + 2 = a + 3) = False := eq_false (by omega)
    have n10 : (a + 2 = a + 1) = False := eq_false (by omega)
    have n11 : (a + 3 = a + 1) = False := eq_false (by omega)
    have n12 : (a + 3 = a + 2) = False := eq_false (by omega)
    have m1 : (2 = a) = False := eq_false (by omega)
    have m2 : (2 = a + 1) = False := eq_false (by omega)
    have m3 : (2 = a + 2) = False := eq_false (by omega)
    have m4 : (2 = a + 3) = False := eq_false (by omega)
    have a2 : 2 ≤ a := by omega
    have s1 : a + 1 + 1 = a + 2 := rfl
    have s2 : a + 2 + 1 = a + 3 := rfl
    have t1 : (4096 : Int32).toNatClampNeg = 4096 := by decide
    have t2 : (102 : Int32).toNatClampNeg = 102 := by decide
    have u1 : ((4096 : Int32) < 0) = False := by decide
    have u2 : ((102 : Int32) < 0) = False := by decide
    have k2 := K_2 hS
    obtain ⟨h1, eh1⟩ : ∃ h1, h1 = nC h 7 7 := ⟨_, rfl⟩
    obtain ⟨h2, eh2⟩ : ∃ h2, h2 = sR (nC h1 22 4096) a 0 (.ref (a + 1)) := ⟨_, rfl⟩
    obtain ⟨h3, eh3⟩ : ∃ h3, h3 = sR (nC h2 22 4096) a 1 (.ref (a + 2)) := ⟨_, rfl⟩
    obtain ⟨h4, eh4⟩ : ∃ h4, h4 = sR (nC h3 20 102) a 2 (.ref (a + 3)) := ⟨_, rfl⟩
    have l1 : h1.1.length = a + 1 := by rw [eh1, hl_nC, ea]
    have l2 : h2.1.length = a + 2 := by rw [eh2]; show (nC h1 22 4096).1.length = _; rw [hl_nC, l1]
    have l3 : h3.1.length = a + 3 := by rw [eh3]; show (nC h2 22 4096).1.length = _; rw [hl_nC, l2]
    have x1 : ∀ x, kd h1 x = if x = a then 7 else kd h x := fun x => by rw [eh1, kdN, ea]
    have x2 : ∀ x, kd h2 x = if x = a + 1 then 22 else kd h1 x := fun x => by rw [eh2, kd_sR, kdN, l1]
    have x3 : ∀ x, kd h3 x = if x = a + 2 then 22 else kd h2 x := fun x => by rw [eh3, kd_sR, kdN, l2]
    have x4 : ∀ x, kd h4 x = if x = a + 3 then 20 else kd h3 x := fun x => by rw [eh4, kd_sR, kdN, l3]
    have y1 : ∀ x, ln h1 x = if x = a then 7 else ln h x := fun x => by rw [eh1, lnN, ea]
    have y2 : ∀ x, ln h2 x = if x = a + 1 then 4096 else ln h1 x := fun x => by rw [eh2, ln_sR, lnN, l1]
    have y3 : ∀ x, ln h3 x = if x = a + 2 then 4096 else ln h2 x := fun x => by rw [eh3, ln_sR, lnN, l2]
    have y4 : ∀ x, ln h4 x = if x = a + 3 then 102 else ln h3 x := fun x => by rw [eh4, ln_sR, lnN, l3]
    have e1 : cal 167 [.ref a] 4 h1 = some (none, h4) := by
      have hμ : 3 < 4 := by omega
      rw [C_167 a 4 h1 (by rw [x1, if_pos rfl]) a2 hμ]
      have z0 : kd h1 a = 7 := by rw [x1, if_pos rfl]
      have z1 : kd h2 a = 7 := by rw [x2, if_neg (by omega), z0]
      have z2 : kd h3 a = 7 := by rw [x3, if_neg (by omega), z1]
      have w1 : kd (nC h1 22 4096) a = 7 := by rw [kdN, l1, if_neg (by omega)]; exact z0
      have w2 : kd (nC h2 22 4096) a = 7 := by rw [kdN, l2, if_neg (by omega)]; exact z1
      have w3 : kd (nC h3 20 102) a = 7 := by rw [kdN, l3, if_neg (by omega)]; exact z2
      simp (disch := first | assumption | decide | omega) only [B_167_0, e_aload_n_0, e_objinit, e_sipush_4096, e_newarr_short, u1, t1, not_false_eq_true, P_700, w1, l1]
      rw [← eh2]
      simp (disch := first | assumption | decide | omega) only [e_aload_n_0, e_sipush_4096, e_newarr_short, u1, t1, not_false_eq_true, P_701, w2, l2]
      rw [← eh3]
      simp (disch := first | assumption | decide | omega) only [e_aload_n_0, e_bipush_102, e_newarr_int, u2, t2, not_false_eq_true, P_702, w3, l3]
      rw [← eh4, R_167]
    obtain ⟨h5, eh5⟩ : ∃ h5, h5 = sR h4 2 9 (.ref a) := ⟨_, rfl⟩
    have k24 : kd h4 2 = 11 := by rw [x4, if_neg (by omega), x3, if_neg (by omega), x2, if_neg (by omega), x1, if_neg (by omega)]; exact k2
    have k25 : kd h5 2 = 11 := by rw [eh5, kd_sR]; exact k24
    have r9 : gR h5 2 9 = .ref a := by rw [eh5, gR_sR, if_pos ⟨rfl, rfl⟩]
    have e2 : cal 166 [.ref 2] μ h = some (some (.ref a), h5) := by
      rw [C_166 2  μ _ (K_2 hS) (by decide) hμ]
      rw [B_166_0]
      simp (disch := first | assumption | decide | omega) only [e_aload_n_0, G_1109, k2, q, e_ifnn_n, e_new_7, ea, e_dup_a, ← eh1]
      simp (disch := first | assumption | decide | omega | (simp only [List.length_cons, List.length_nil] <;> omega)) only [e_call_1, e1, Option.bind_some, psh_n, P_1109, k24]
      rw [← eh5]
      simp (disch := first | assumption | decide | omega) only [e_gotow, T_166_18, B_166_18, e_aload_n_0, G_1109, k25, r9, R_166]
    have low : ∀ x k, x < a → gI h5 x k = gI h x k ∧ gL h5 x k = gL h x k ∧ (¬ (x = 2 ∧ k = 9) → gR h5 x k = gR h x k) := by
      intro x k hx
      refine ⟨?_, ?_, fun nq => ?_⟩
      · rw [eh5, gI_sR, eh4, gI_sR, gI_nC, l3, if_neg (by omega), eh3, gI_sR, gI_nC, l2, if_neg (by omega), eh2, gI_sR, gI_nC, l1, if_neg (by omega), eh1, gI_nC, ea, if_neg (by omega)]
      · rw [eh5, gL_sR, eh4, gL_sR, gL_nC, l3, if_neg (by omega), eh3, gL_sR, gL_nC, l2, if_neg (by omega), eh2, gL_sR, gL_nC, l1, if_neg (by omega), eh1, gL_nC, ea, if_neg (by omega)]
      · rw [eh5, gR_sR, if_neg nq, eh4, gR_sR, if_neg (by omega), gR_nC, l3, if_neg (by omega), eh3, gR_sR, if_neg (by omega), gR_nC, l2, if_neg (by omega), eh2, gR_sR, if_neg (by omega), gR_nC, l1, if_neg (by omega), eh1, gR_nC, ea, if_neg (by omega)]
    have kd5 : ∀ x, x < a → kd h5 x = kd h x := fun x hx => by
      rw [eh5, kd_sR, x4, if_neg (by omega), x3, if_neg (by omega), x2, if_neg (by omega), x1, if_neg (by omega)]
    have ln5 : ∀ x, x < a → ln h5 x = ln h x := fun x hx => by
      rw [eh5, ln_sR, y4, if_neg (by omega), y3, if_neg (by omega), y2, if_neg (by omega), y1, if_neg (by omega)]
    have fr : Fr h h5 [(2, some 9)] := fun x k hx w => by
      obtain ⟨b1, b2, b3⟩ := low x k (by omega)
      refine ⟨b1, b2, b3 ?_⟩
      rintro ⟨rfl, rfl⟩
      cases w
    have shp2 : h5.1 = h.1 ++ [(7, 7), (22, 4096), (22, 4096), (20, 102)] := by
      rw [eh5]
      show h4.1 = _
      rw [eh4]
      show h3.1 ++ [(20, 102)] = _
      rw [eh3]
      show (h2.1 ++ [(22, 4096)]) ++ [(20, 102)] = _
      rw [eh2]
      show ((h1.1 ++ [(22, 4096)]) ++ [(22, 4096)]) ++ [(20, 102)] = _
      rw [eh1]
      show (((h.1 ++ [(7, 7)]) ++ [(22, 4096)]) ++ [(22, 4096)]) ++ [(20, 102)] = _
      simp
    have shp : ∃ ext, h5.1 = h.1 ++ ext := ⟨_, shp2⟩
    have hS5 : St h5 := St_ext hS shp (fun q hq => by
      have z := List.all_eq_true.mp rtb_lt q hq
      simp only [Bool.and_eq_true, decide_eq_true_eq, Bool.not_eq_true', Bool.and_eq_false_iff, beq_eq_false_iff_ne] at z
      exact (low q.1 q.2.1 (by omega)).2.2 (fun w => by omega))
    have so : SeO a h5 := by
      refine ⟨r9, by omega, ?_, ⟨?_, ?_, ?_⟩, ⟨?_, ?_, ?_⟩, ?_, ?_, ?_⟩
      · rw [eh5, kd_sR, x4, if_neg (by omega), x3, if_neg (by omega), x2, if_neg (by omega), x1, if_pos rfl]
      · rw [eh5, gR_sR, if_neg (by omega), eh4, gR_sR, if_neg (by omega), gR_nC, l3, if_neg (by omega), eh3, gR_sR, if_neg (by omega), gR_nC, l2, if_neg (by omega), eh2, gR_sR, if_pos ⟨rfl, rfl⟩]
      · rw [eh5, kd_sR, x4, if_neg (by omega), x3, if_neg (by omega), x2, if_pos rfl]
      · rw [eh5, ln_sR, y4, if_neg (by omega), y3, if_neg (by omega), y2, if_pos rfl]
      · rw [eh5, gR_sR, if_neg (by omega), eh4, gR_sR, if_neg (by omega), gR_nC, l3, if_neg (by omega), eh3, gR_sR, if_pos ⟨rfl, rfl⟩]
      · rw [eh5, kd_sR, x4, if_neg (by omega), x3, if_pos rfl]
      · rw [eh5, ln_sR, y4, if_neg (by omega), y3, if_pos rfl]
      · rw [eh5, gR_sR, if_neg (by omega), eh4, gR_sR, if_pos ⟨rfl, rfl⟩]
      · rw [eh5, kd_sR, x4, if_pos rfl]
      · rw [eh5, ln_sR, y4, if_pos rfl]
    refine ⟨a, h5, e2, ?_, so, fr⟩
    refine hI.setL (hI.1.fr hS5 fr (by decide +kernel)) fr (by decide +kernel) ?_ (Or.inr ⟨a, so⟩) ?_
    · obtain ⟨b, n, z1, z2, z3, z4, z5, z6, z7, z8⟩ := hI.2.2.1
      have hb : b < a := by rw [← ea]; exact kdlt (by omega)
      refine ⟨b, n, by rw [(low 64 0 (by omega)).2.2 (by omega)]; exact z1, z2, by rw [kd5 b hb]; exact z3, by rw [ln5 b hb]; exact z4, by rw [ln5 b hb]; exact z5, by rw [(low 64 1 (by omega)).1]; exact z6, by rw [(low 66 67 (by omega)).1]; exact z7, fun i hi => ?_⟩
      rw [(low b i hb).1, (low 96 i (by omega)).1]; exact z8 i hi
    · obtain ⟨LL, hL, x, y, b1, b2, b3, b4⟩ := hI.2.2.2.2
      have hx : x = 0 := b1.elim (fun z => z.2) (fun z => absurd q z.1)
      subst hx
      obtain ⟨b, n, z1, z2, z3, -⟩ := hI.2.2.1
      have hb : b < a := by rw [← ea]; exact kdlt (by omega)
      have lem : Rom h5 := by
        refine ⟨LL, hL, 1, y, Or.inr ⟨(by rw [r9]; exact (fun z => by cases z)), rfl⟩, ?_, ?_, ?_⟩
        · rw [(low 64 0 (by omega)).2.2 (by omega)]
          rcases b2 with q | ⟨q, b', q1, q2⟩
          · exact Or.inl q
          · refine Or.inr ⟨q, b', q1, ?_⟩
            rw [z1] at q1
            obtain rfl : b = b' := by injection q1
            rw [ln5 b hb]; exact q2
        · rw [shp2, List.length_append]
          have : ([(7, 7), (22, 4096), (22, 4096), (20, 102)] : List (Nat × Nat)).length = 4 := rfl
          omega
        · unfold szH at b4 ⊢
          rw [shp2, List.map_append, List.sum_append]
          have : (([(7, 7), (22, 4096), (22, 4096), (20, 102)] : List (Nat × Nat)).map (fun q => q.2)).sum = 8301 := rfl
          omega
      exact lem
  · refine ⟨a, h, ?_, hI, q, fun _ _ _ _ => ⟨rfl, rfl, rfl⟩⟩
    obtain ⟨q1, -⟩ := q
    rw [C_166 2  μ _ (K_2 hS) (by decide) hμ]
    simp (disch := first | assumption | exact b2i_01 _ | decide | omega | (simp only [kd_sI, ln_sI, hl_sI, gL_sI, gR_sI, kd_sL, ln_sL, hl_sL, gI_sL, gR_sL, kd_sR, ln_sR, hl_sR, gI_sR, gL_sR, kd_cpI, ln_cpI, hl_cpI, gL_cpI, gR_cpI, gI_cpI, gI_sI, gL_sL, gR_sR, St_sI, St_sL, St_cpI, Nat.reduceEqDiff, Nat.reduceAdd, eq_self, false_and, and_false, true_and, and_true, and_self, if_true, if_false, false_or, or_false, true_or, or_true, not_true_eq_false, not_false_eq_true, reduceIte, K_2, F_2_0, F_2_1, F_2_2, F_2_3, F_2_4, F_2_5, F_2_6, hS, q1] <;> first | done | decide | omega | fail) | fail) only [B_166_0, e_aload_n_0, G_1109, e_ifnn_r, e_ifnn_n, e_new_7, e_dup_i, e_dup_a, e_call_1, psh_s, psh_n, Option.bind_some, P_1109, e_gotow, T_166_18, B_166_18, R_166, kd_sI, ln_sI, hl_sI, gL_sI, gR_sI, kd_sL, ln_sL, hl_sL, gI_sL, gR_sL, kd_sR, ln_sR, hl_sR, gI_sR, gL_sR, kd_cpI, ln_cpI, hl_cpI, gL_cpI, gR_cpI, gI_cpI, gI_sI, gL_sL, gR_sR, St_sI, St_sL, St_cpI, Nat.reduceEqDiff, Nat.reduceAdd, eq_self, false_and, and_false, true_and, and_true, and_self, if_true, if_false, false_or, or_false, true_or, or_true, not_true_eq_false, not_false_eq_true, reduceIte, K_2, F_2_0, F_2_1, F_2_2, F_2_3, F_2_4, F_2_5, F_2_6, q1]
