/-- all cells that were there stay as they were, but for the place of the searches -/
def LSx (h h' : MH) : Prop := (∀ x, x < h.1.length → kd h' x = kd h x ∧ ln h' x = ln h x) ∧ h.1.length ≤ h'.1.length ∧ ∀ x k, x < h.1.length → gI h' x k = gI h x k ∧ gL h' x k = gL h x k ∧ (¬ (x = 2 ∧ k = 9) → gR h' x k = gR h x k)
theorem q_searchesW {o p b : Nat} {L : LD} {h : MH} (hI : QI o p L h) (hSr : Srh h) (hRo : Rom h) (hbr : gR h 64 0 = .ref b) (hbk : kd h b = 20) {μ : Nat} (hμ : 4 < μ) : ∃ (a : Nat) (h' : MH), cal 166 [.ref 2] μ h = some (some (.ref a), h') ∧ QI o p L h' ∧ SeO a h' ∧ Rom h' ∧ LSx h h' := by
  have hS := hI.1.1
  rcases hSr with q | ⟨a, q⟩
  · have len := St_len hS
    obtain ⟨a, ea⟩ : ∃ a, h.1.length = a := ⟨_, rfl⟩
    have n1 : (a = a + 1) = False := eq_false (by omega)
    have n2 : (a = a + 2) = False := eq_false (by omega)
    have n3 : (a = a + 3) = False := eq_false (by omega)
    have n4 : (a + 1 = a) = False := eq_false (by omega)
    have n5 : (a + 2 = a) = False := eq_false (by omega)
    have n6 : (a + 3 = a) = False := eq_false (by omega)
    have n7 : (a + 1 = a + 2) = False := eq_false (by omega)
    have n8 : (a + 1 = a + 3) = False := eq_false (by omega)
    have n9 : (a + 2 = a + 3) = False := eq_false (by omega)
    have n10 : (a + 2 = a + 1) = False := eq_false (by omega)
    have n11 : (a + 3 = a + 1) = False := eq_false (by omega)
    have n12 : (a + 3 = a + 2) = False := eq_false (by omega)
    have m1 : (2 = a) = False := eq_false (by omega)
    have m2 : (2 = a + 1) = False := eq_false (by omega)
    have m3 : (2 = a + 2) = False := eq_false (by omega)
    have m4 : (2 = a + 3) = False := eq_false (by omega)
    have a2 : 2 ≤ a := by omega
    have s1 : a + 1 + 1 = a + 2 := rfl
    have s2 : a + 2 + 1 = a + 3 := rfl
    have t1 : (4096 : Int32).toNatClampNeg = 4096 := by decide
    have t2 : (102 : Int32).toNatClampNeg = 102 := by decide
    have u1 : ((4096 : Int32) < 0) = False := by decide
    have u2 : ((102 : Int32) < 0) = False := by decide
    have k2 := K_2 hS
    obtain ⟨h1, eh1⟩ : ∃ h1, h1 = nC h 7 7 := ⟨_, rfl⟩
    obtain ⟨h2, eh2⟩ : ∃ h2, h2 = sR (nC h1 22 4096) a 0 (.ref (a + 1)) := ⟨_, rfl⟩
    obtain ⟨h3, eh3⟩ : ∃ h3, h3 = sR (nC h2 22 4096) a 1 (.ref (a + 2)) := ⟨_, rfl⟩
    obtain ⟨h4, eh4⟩ : ∃ h4, h4 = sR (nC h3 20 102) a 2 (.ref (a + 3)) := ⟨_, rfl⟩
    have l1 : h1.1.length = a + 1 := by rw [eh1, hl_nC, ea]
    have l2 : h2.1.length = a + 2 := by rw [eh2]; show (nC h1 22 4096).1.length = _; rw [hl_nC, l1]
    have l3 : h3.1.length = a + 3 := by rw [eh3]; show (nC h2 22 4096).1.length = _; rw [hl_nC, l2]
    have x1 : ∀ x, kd h1 x = if x = a then 7 else kd h x := fun x => by rw [eh1, kdN, ea]
    have x2 : ∀ x, kd h2 x = if x = a + 1 then 22 else kd h1 x := fun x => by rw [eh2, kd_sR, kdN, l1]
    have x3 : ∀ x, kd h3 x = if x = a + 2 then 22 else kd h2 x := fun x => by rw [eh3, kd_sR, kdN, l2]
    have x4 : ∀ x, kd h4 x = if x = a + 3 then 20 else kd h3 x := fun x => by rw [eh4, kd_sR, kdN, l3]
    have y1 : ∀ x, ln h1 x = if x = a then 7 else ln h x := fun x => by rw [eh1, lnN, ea]
    have y2 : ∀ x, ln h2 x = if x = a + 1 then 4096 else ln h1 x := fun x => by rw [eh2, ln_sR, lnN, l1]
    have y3 : ∀ x, ln h3 x = if x = a + 2 then 4096 else ln h2 x := fun x => by rw [eh3, ln_sR, lnN, l2]
    have y4 : ∀ x, ln h4 x = if x = a + 3 then 102 else ln h3 x := fun x => by rw [eh4, ln_sR, lnN, l3]
    have e1 : cal 167 [.ref a] 4 h1 = some (none, h4) := by
      have hμ : 3 < 4 := by omega
      rw [C_167 a 4 h1 (by rw [x1, if_pos rfl]) a2 hμ]
      have z0 : kd h1 a = 7 := by rw [x1, if_pos rfl]
      have z1 : kd h2 a = 7 := by rw [x2, if_neg (by omega), z0]
      have z2 : kd h3 a = 7 := by rw [x3, if_neg (by omega), z1]
      have w1 : kd (nC h1 22 4096) a = 7 := by rw [kdN, l1, if_neg (by omega)]; exact z0
      have w2 : kd (nC h2 22 4096) a = 7 := by rw [kdN, l2, if_neg (by omega)]; exact z1
      have w3 : kd (nC h3 20 102) a = 7 := by rw [kdN, l3, if_neg (by omega)]; exact z2
      simp (disch := first | assumption | decide | omega) only [B_167_0, e_aload_n_0, e_objinit, e_sipush_4096, e_newarr_short, u1, t1, not_false_eq_true, P_700, w1, l1]
      rw [← eh2]
      simp (disch := first | assumption | decide | omega) only [e_aload_n_0, e_sipush_4096, e_newarr_short, u1, t1, not_false_eq_true, P_701, w2, l2]
      rw [← eh3]
      simp (disch := first | assumption | decide | omega) only [e_aload_n_0, e_bipush_102, e_newarr_int, u2, t2, not_false_eq_true, P_702, w3, l3]
      rw [← eh4, R_167]
    obtain ⟨h5, eh5⟩ : ∃ h5, h5 = sR h4 2 9 (.ref a) := ⟨_, rfl⟩
    have k24 : kd h4 2 = 11 := by rw [x4, if_neg (by omega), x3, if_neg (by omega), x2, if_neg (by omega), x1, if_neg (by omega)]; exact k2
    have k25 : kd h5 2 = 11 := by rw [eh5, kd_sR]; exact k24
    have r9 : gR h5 2 9 = .ref a := by rw [eh5, gR_sR, if_pos ⟨rfl, rfl⟩]
    have e2 : cal 166 [.ref 2] μ h = some (some (.ref a), h5) := by
      rw [C_166 2  μ _ (K_2 hS) (by decide) hμ]
      rw [B_166_0]
      simp (disch := first | assumption | decide | omega) only [e_aload_n_0, G_1109, k2, q, e_ifnn_n, e_new_7, ea, e_dup_a, ← eh1]
      simp (disch := first | assumption | decide | omega | (simp only [List.length_cons, List.length_nil] <;> omega)) only [e_call_1, e1, Option.bind_some, psh_n, P_1109, k24]
      rw [← eh5]
      simp (disch := first | assumption | decide | omega) only [e_gotow, T_166_18, B_166_18, e_aload_n_0, G_1109, k25, r9, R_166]
    have low : ∀ x k, x < a → gI h5 x k = gI h x k ∧ gL h5 x k = gL h x k ∧ (¬ (x = 2 ∧ k = 9) → gR h5 x k = gR h x k) := by
      intro x k hx
      refine ⟨?_, ?_, fun nq => ?_⟩
      · rw [eh5, gI_sR, eh4, gI_sR, gI_nC, l3, if_neg (by omega), eh3, gI_sR, gI_nC, l2, if_neg (by omega), eh2, gI_sR, gI_nC, l1, if_neg (by omega), eh1, gI_nC, ea, if_neg (by omega)]
      · rw [eh5, gL_sR, eh4, gL_sR, gL_nC, l3, if_neg (by omega), eh3, gL_sR, gL_nC, l2, if_neg (by omega), eh2, gL_sR, gL_nC, l1, if_neg (by omega), eh1, gL_nC, ea, if_neg (by omega)]
      · rw [eh5, gR_sR, if_neg nq, eh4, gR_sR, if_neg (by omega), gR_nC, l3, if_neg (by omega), eh3, gR_sR, if_neg (by omega), gR_nC, l2, if_neg (by omega), eh2, gR_sR, if_neg (by omega), gR_nC, l1, if_neg (by omega), eh1, gR_nC, ea, if_neg (by omega)]
    have kd5 : ∀ x, x < a → kd h5 x = kd h x := fun x hx => by
      rw [eh5, kd_sR, x4, if_neg (by omega), x3, if_neg (by omega), x2, if_neg (by omega), x1, if_neg (by omega)]
    have ln5 : ∀ x, x < a → ln h5 x = ln h x := fun x hx => by
      rw [eh5, ln_sR, y4, if_neg (by omega), y3, if_neg (by omega), y2, if_neg (by omega), y1, if_neg (by omega)]
    have fr : Fr h h5 [(2, some 9)] := fun x k hx w => by
      obtain ⟨b1, b2, b3⟩ := low x k (by omega)
      refine ⟨b1, b2, b3 ?_⟩
      rintro ⟨rfl, rfl⟩
      cases w
    have shp2 : h5.1 = h.1 ++ [(7, 7), (22, 4096), (22, 4096), (20, 102)] := by
      rw [eh5]
      show h4.1 = _
      rw [eh4]
      show h3.1 ++ [(20, 102)] = _
      rw [eh3]
      show (h2.1 ++ [(22, 4096)]) ++ [(20, 102)] = _
      rw [eh2]
      show ((h1.1 ++ [(22, 4096)]) ++ [(22, 4096)]) ++ [(20, 102)] = _
      rw [eh1]
      show (((h.1 ++ [(7, 7)]) ++ [(22, 4096)]) ++ [(22, 4096)]) ++ [(20, 102)] = _
      simp
    have shp : ∃ ext, h5.1 = h.1 ++ ext := ⟨_, shp2⟩
    have hS5 : St h5 := St_ext hS shp (fun q hq => by
      have z := List.all_eq_true.mp rtb_lt q hq
      simp only [Bool.and_eq_true, decide_eq_true_eq, Bool.not_eq_true', Bool.and_eq_false_iff, beq_eq_false_iff_ne] at z
      exact (low q.1 q.2.1 (by omega)).2.2 (fun w => by omega))
    have so : SeO a h5 := by
      refine ⟨r9, by omega, ?_, ⟨?_, ?_, ?_⟩, ⟨?_, ?_, ?_⟩, ?_, ?_, ?_⟩
      · rw [eh5, kd_sR, x4, if_neg (by omega), x3, if_neg (by omega), x2, if_neg (by omega), x1, if_pos rfl]
      · rw [eh5, gR_sR, if_neg (by omega), eh4, gR_sR, if_neg (by omega), gR_nC, l3, if_neg (by omega), eh3, gR_sR, if_neg (by omega), gR_nC, l2, if_neg (by omega), eh2, gR_sR, if_pos ⟨rfl, rfl⟩]
      · rw [eh5, kd_sR, x4, if_neg (by omega), x3, if_neg (by omega), x2, if_pos rfl]
      · rw [eh5, ln_sR, y4, if_neg (by omega), y3, if_neg (by omega), y2, if_pos rfl]
      · rw [eh5, gR_sR, if_neg (by omega), eh4, gR_sR, if_neg (by omega), gR_nC, l3, if_neg (by omega), eh3, gR_sR, if_pos ⟨rfl, rfl⟩]
      · rw [eh5, kd_sR, x4, if_neg (by omega), x3, if_pos rfl]
      · rw [eh5, ln_sR, y4, if_neg (by omega), y3, if_pos rfl]
      · rw [eh5, gR_sR, if_neg (by omega), eh4, gR_sR, if_pos ⟨rfl, rfl⟩]
      · rw [eh5, kd_sR, x4, if_pos rfl]
      · rw [eh5, ln_sR, y4, if_pos rfl]
    have hbl : b < a := by rw [← ea]; exact kdlt (by omega)
    refine ⟨a, h5, e2, hI.fr hS5 fr (by decide +kernel), so, ?_, fun x hx => ⟨kd5 x (by omega), ln5 x (by omega)⟩, by rw [shp2, List.length_append]; omega, fun x k hx => low x k (by omega)⟩
    obtain ⟨LL, hL, x, y, b1, b2, b3, b4⟩ := hRo.nat
    have hx : x = 0 := b1.elim (fun z => z.2) (fun z => absurd q z.1)
    subst hx
    refine ⟨LL, hL, 1, y, Or.inr ⟨(by rw [r9]; exact (fun z => by cases z)), rfl⟩, ?_, ?_, ?_⟩
    · rw [(low 64 0 (by omega)).2.2 (by omega)]
      rcases b2 with q | ⟨q, b', q1, q2⟩
      · exact Or.inl q
      · refine Or.inr ⟨q, b', q1, ?_⟩
        rw [hbr] at q1
        obtain rfl : b = b' := by injection q1
        rw [ln5 b hbl]; exact q2
    · rw [shp2, List.length_append]
      have : ([(7, 7), (22, 4096), (22, 4096), (20, 102)] : List (Nat × Nat)).length = 4 := rfl
      omega
    · unfold szH at b4 ⊢
      rw [shp2, List.map_append, List.sum_append]
      have : (([(7, 7), (22, 4096), (22, 4096), (20, 102)] : List (Nat × Nat)).map (fun q => q.2)).sum = 8301 := rfl
      omega
  · refine ⟨a, h, ?_, hI, q, hRo, fun _ _ => ⟨rfl, rfl⟩, Nat.le_refl _, fun _ _ _ => ⟨rfl, rfl, fun _ => rfl⟩⟩
    obtain ⟨q1, -⟩ := q
    rw [C_166 2  μ _ (K_2 hS) (by decide) hμ]
    simp (disch := first | assumption | exact b2i_01 _ | decide | omega | (simp only [kd_sI, ln_sI, hl_sI, gL_sI, gR_sI, kd_sL, ln_sL, hl_sL, gI_sL, gR_sL, kd_sR, ln_sR, hl_sR, gI_sR, gL_sR, kd_cpI, ln_cpI, hl_cpI, gL_cpI, gR_cpI, gI_cpI, gI_sI, gL_sL, gR_sR, St_sI, St_sL, St_cpI, Nat.reduceEqDiff, Nat.reduceAdd, eq_self, false_and, and_false, true_and, and_true, and_self, if_true, if_false, false_or, or_false, true_or, or_true, not_true_eq_false, not_false_eq_true, reduceIte, K_2, F_2_0, F_2_1, F_2_2, F_2_3, F_2_4, F_2_5, F_2_6, hS, q1] <;> first | done | decide | omega | fail) | fail) only [B_166_0, e_aload_n_0, G_1109, e_ifnn_r, e_ifnn_n, e_new_7, e_dup_i, e_dup_a, e_call_1, psh_s, psh_n, Option.bind_some, P_1109, e_gotow, T_166_18, B_166_18, R_166, kd_sI, ln_sI, hl_sI, gL_sI, gR_sI, kd_sL, ln_sL, hl_sL, gI_sL, gR_sL, kd_sR, ln_sR, hl_sR, gI_sR, gL_sR, kd_cpI, ln_cpI, hl_cpI, gL_cpI, gR_cpI, gI_cpI, gI_sI, gL_sL, gR_sR, St_sI, St_sL, St_cpI, Nat.reduceEqDiff, Nat.reduceAdd, eq_self, false_and, and_false, true_and, and_true, and_self, if_true, if_false, false_or, or_false, true_or, or_true, not_true_eq_false, not_false_eq_true, reduceIte, K_2, F_2_0, F_2_1, F_2_2, F_2_3, F_2_4, F_2_5, F_2_6, q1]
theorem s_Se_layWay {a g s0 C : Nat} {E : List Ent} {e : Ent} {h : MH} (hM : Mk a E h) (hAl : ln h (a + 3) = 102) (w : Wl C s0 E) (hC : C ≤ 12) (he : E[g]? = some e) (hg : g ≤ 4095) (hS : St h) (hY : LyW h) (hR : Rom h) {μ : Nat} (hμ : 5 < μ) : ∃ (h' : MH) (b : Nat), cal 172 [.ref a, .int (nI e.1), .ref 64] μ h = some (none, h') ∧ St h' ∧ Rom h' ∧ gR h' 64 0 = .ref b ∧ (b = 65 ∨ 112 ≤ b) ∧ kd h' b = 20 ∧ (ln h' b = 40 ∨ ln h' b = 4096) ∧ (pt E g).length ≤ ln h' b ∧ gI h' 64 1 = nI (pt E g).length ∧ LW b h h' ∧ ∀ (i x : Nat), (pt E g)[i]? = some x → gI h' b i = nI x := by
  have hgl : g < E.length := by
    rcases Nat.lt_or_ge g E.length with q | q
    · exact q
    · rw [List.getElem?_eq_none q] at he; cases he
  have pl := pt_len w g g (Nat.le_refl _) hgl
  have e1 := lp_Se_len (g0 := nI e.1) (l5 := none) hM w hC g g e 0 (Nat.le_refl _) he (by omega)
  rw [Nat.zero_add] at e1
  obtain ⟨h1, b, e2, hS1, hR1, r1, r2, r3, r4, r5, r6, lw⟩ := s_Ly_makeRoom (n := (pt E g).length) hS hY hR (by omega) (μ := 5) (by omega)
  obtain ⟨k1, k2, k3, k4, k5, k6⟩ := hM
  have ha2 : 2 ≤ a := by omega
  have la : a < h.1.length := kdlt (by omega)
  have la2 : a + 2 < h.1.length := kdlt (by omega)
  have hb65 : 65 ≤ b := by omega
  have nba : ¬ b = a := fun q => by
    rw [q, (lw.1 a la).1] at r3; omega
  have nba2 : ¬ b = a + 2 := fun q => by
    rw [q, (lw.1 (a + 2) la2).1] at r3; omega
  have hM1 : Mk a E h1 := ⟨by rw [(lw.1 a la).1]; exact k1, k2, by rw [(lw.2.2.2 a 1 la (by omega) (fun q => nba q.symm)).2]; exact k3, by rw [(lw.1 (a + 2) la2).1]; exact k4, by rw [(lw.1 (a + 2) la2).2]; exact k5, fun j e he => by rw [lw.2.2.1 (a + 2) e.1 la2 (by omega) (fun q => nba2 q.symm)]; exact k6 j e he⟩
  obtain ⟨h2, e3, s2, p2⟩ := lp_Se_lay (a := a) (b := b) (g0 := nI e.1) (ln0 := nI (pt E g).length) w hC hb65 nba nba2 g g e [] h1 (Nat.le_refl _) he hM1 hS1 r1 r3 (by omega) r5 r6 (by simp) (fun i x hx => by simp at hx)
  rw [List.append_nil] at p2
  have w64 : ∀ k, wr [(b, none)] 64 k = false := fun k => wr_a (l := []) (by omega) rfl
  refine ⟨h2, b, ?_, ?_, ?_, by rw [s2.R (w64 0)]; exact r1, r2, by rw [Sm_kd s2]; exact r3, by rw [Sm_ln s2]; exact r4, by rw [Sm_ln s2]; exact r5, by rw [s2.I (w64 1)]; exact r6, ⟨fun x hx => by rw [Sm_kd s2, Sm_ln s2]; exact lw.1 x hx, by rw [s2.1]; exact lw.2.1, fun x k hx q1 q2 => by rw [s2.I (wr_a (l := []) (fun q => q2 q.symm) rfl)]; exact lw.2.2.1 x k hx q1 q2, fun x k hx q1 q2 => ?_⟩, p2⟩
  · have sb : nI (pt E g).length - 1 = nI (pt E g).length + (-1) := by rw [Int32.sub_eq_add_neg]
    rw [C_172 a _ _ μ h k1 ha2 hμ]
    simp (disch := first | assumption | exact b2i_01 _ | decide | omega | (simp only [kd_sI, ln_sI, hl_sI, gL_sI, gR_sI, kd_sL, ln_sL, hl_sL, gI_sL, gR_sL, kd_sR, ln_sR, hl_sR, gI_sR, gL_sR, kd_cpI, ln_cpI, hl_cpI, gL_cpI, gR_cpI, gI_cpI, gI_sI, gL_sL, gR_sR, St_sI, St_sL, St_cpI, Nat.reduceEqDiff, Nat.reduceAdd, eq_self, false_and, and_false, true_and, and_true, and_self, if_true, if_false, false_or, or_false, true_or, or_true, not_true_eq_false, not_false_eq_true, reduceIte, K_64, hS, k1] <;> first | done | decide | omega | fail) | fail) only [B_172_0, e_iconst_0, e_istore_n_3, clr_i, clr_l, clr_a, clr_n, e_iload_n_1, e_istore_4, e_gotow, T_172_5, e_aload_n_0, e_iload_4, e_call_2, psh_s, psh_n, Option.bind_some, e_if_eq, e_iload_n_3, e_sipush_4096, e_ic_ge, e_iinc_3_1, e_iconst_1, G_701, e_saload, e_ishl, e_ixor, e_goto, T_172_41, e_aload_n_2, e_isub, e_istore_5, T_172_54, e_iload_5, e_if_lt, e_call_3, e_iinc_4_m1, T_172_101, B_172_101, R_172, kd_sI, ln_sI, hl_sI, gL_sI, gR_sI, kd_sL, ln_sL, hl_sL, gI_sL, gR_sL, kd_sR, ln_sR, hl_sR, gI_sR, gL_sR, kd_cpI, ln_cpI, hl_cpI, gL_cpI, gR_cpI, gI_cpI, gI_sI, gL_sL, gR_sR, St_sI, St_sL, St_cpI, Nat.reduceEqDiff, Nat.reduceAdd, eq_self, false_and, and_false, true_and, and_true, and_self, if_true, if_false, false_or, or_false, true_or, or_true, not_true_eq_false, not_false_eq_true, reduceIte, K_64, k1]
    rw [show (0 : Int32) = nI 0 from rfl, e1, B_172_41]
    simp (disch := first | assumption | exact b2i_01 _ | decide | omega | (simp only [kd_sI, ln_sI, hl_sI, gL_sI, gR_sI, kd_sL, ln_sL, hl_sL, gI_sL, gR_sL, kd_sR, ln_sR, hl_sR, gI_sR, gL_sR, kd_cpI, ln_cpI, hl_cpI, gL_cpI, gR_cpI, gI_cpI, gI_sI, gL_sL, gR_sR, St_sI, St_sL, St_cpI, Nat.reduceEqDiff, Nat.reduceAdd, eq_self, false_and, and_false, true_and, and_true, and_self, if_true, if_false, false_or, or_false, true_or, or_true, not_true_eq_false, not_false_eq_true, reduceIte, K_64, hS, hS1, e2, sb, List.length_nil, List.length_cons, Nat.zero_le] <;> first | done | decide | omega | fail) | fail) only [B_172_0, e_iconst_0, e_istore_n_3, clr_i, clr_l, clr_a, clr_n, e_iload_n_1, e_istore_4, e_gotow, T_172_5, e_aload_n_0, e_iload_4, e_call_2, psh_s, psh_n, Option.bind_some, e_if_eq, e_iload_n_3, e_sipush_4096, e_ic_ge, e_iinc_3_1, e_iconst_1, G_701, e_saload, e_ishl, e_ixor, e_goto, T_172_41, e_aload_n_2, e_isub, e_istore_5, T_172_54, e_iload_5, e_if_lt, e_call_3, e_iinc_4_m1, T_172_101, B_172_101, R_172, kd_sI, ln_sI, hl_sI, gL_sI, gR_sI, kd_sL, ln_sL, hl_sL, gI_sL, gR_sL, kd_sR, ln_sR, hl_sR, gI_sR, gL_sR, kd_cpI, ln_cpI, hl_cpI, gL_cpI, gR_cpI, gI_cpI, gI_sI, gL_sL, gR_sR, St_sI, St_sL, St_cpI, Nat.reduceEqDiff, Nat.reduceAdd, eq_self, false_and, and_false, true_and, and_true, and_self, if_true, if_false, false_or, or_false, true_or, or_true, not_true_eq_false, not_false_eq_true, reduceIte, K_64, hS1, e2, sb, List.length_nil, List.length_cons, Nat.zero_le]
    exact e3
  · exact SmStA (l := []) s2 r2 hS1 (by decide +kernel)
  · exact hR1.smA (l := []) s2 r2 rfl
  · rw [s2.L (wr_a (l := []) (fun q => q2 q.symm) rfl), s2.R (wr_a (l := []) (fun q => q2 q.symm) rfl)]
    exact lw.2.2.2 x k hx q1 q2
