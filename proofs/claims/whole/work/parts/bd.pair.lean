/-! orchard: the pair -/
theorem LwO.eq {o st sd : Nat} {L : LD} {h h' : MH} (lw : LwO o L st sd h) (E : ∀ a j, o ≤ a → a ≤ o + 18 → gI h' a j = gI h a j) : LwO o L st sd h' := by
  obtain ⟨⟨t1, t2, t3⟩, t4, t5, t6, ⟨u1, u2, u3, u4, u5⟩, w1, w2⟩ := lw
  have I : ∀ {a j : Nat}, o ≤ a ∧ a ≤ o + 18 → gI h' a j = gI h a j := fun q => E _ _ q.1 q.2
  refine ⟨⟨by rw [I (by omega)]; exact t1, by rw [I (by omega)]; exact t2, by rw [I (by omega)]; exact t3⟩, fun t ht => by rw [I (by omega)]; exact t4 t ht, fun t ht => by rw [I (by omega)]; exact t5 t ht, fun c hc => ?_, ⟨by rw [I (by omega)]; exact u1, by rw [I (by omega)]; exact u2, by rw [I (by omega)]; exact u3, by rw [I (by omega)]; exact u4, by rw [I (by omega)]; exact u5⟩, by rw [I (by omega)]; exact w1, by rw [I (by omega)]; exact w2⟩
  rw [I (by omega), I (by omega), I (by omega), I (by omega), I (by omega), I (by omega)]
  exact t6 c hc
theorem gI_hQ {o o' a j : Nat} {h : MH} (q : ¬ (a = 43 ∧ j = 1)) : gI (hQ o o' h) a j = gI h a j := by
  unfold hQ
  rw [gI_sR, gI_sR, gI_sI, if_neg q]
theorem gL_hQ {o o' a j : Nat} {h : MH} : gL (hQ o o' h) a j = gL h a j := rfl
theorem gI_hQ0 {o o' : Nat} {h : MH} : gI (hQ o o' h) 43 1 = 0 := by
  unfold hQ
  rw [gI_sR, gI_sR, gI_sI, if_pos ⟨rfl, rfl⟩]
theorem gR_hQ7 {o o' : Nat} {h : MH} : gR (hQ o o' h) 2 7 = .ref o' := by
  unfold hQ
  rw [gR_sR, if_neg (by omega), gR_sR, if_pos ⟨rfl, rfl⟩]
theorem gR_hQ8 {o o' : Nat} {h : MH} : gR (hQ o o' h) 2 8 = .ref o := by
  unfold hQ
  rw [gR_sR, if_pos ⟨rfl, rfl⟩]
theorem hQ_St {o o' : Nat} {h : MH} (hS : St h) : St (hQ o o' h) := Sm.St (l := [(43, some 1), (2, some 7), (2, some 8)]) ((((Sm.rf h _).sI rfl).sR rfl).sR rfl) hS (by decide +kernel)
theorem wOA_lo {a j : Nat} (ha : a < 66) : wr WOA a j = false := by
  unfold wr
  rw [List.any_eq_false]
  intro q hq z
  have d : WOA.all (fun q => decide (66 ≤ q.1)) = true := by decide +kernel
  have := of_decide_eq_true (List.all_eq_true.mp d q hq)
  unfold wr1 at z
  simp only [Bool.and_eq_true, beq_iff_eq] at z
  omega
def WGd : WL := WRc ++ ([(2, some 7), (2, some 8), (46, some 0), (46, some 1), (47, none), (48, none), (49, none), (50, none), (51, none), (52, none), (53, some 0), (53, some 3), (53, some 4), (53, some 5), (54, none), (55, some 2), (58, some 5), (64, some 1)] ++ (WRm ++ WOA))
theorem WSt_Gd {o : Nat} (ho : Oo o) : ∀ q ∈ WSt o, q ∈ WGd := by
  rcases ho with rfl | rfl <;> decide +kernel
theorem p_orchard {o p : Nat} {L : LD} {h : MH} (hI : INV o p L h) : PR 37 209 [] h := by
  have hS := hI.1.1.1
  obtain ⟨n, t1, t2, t3, t4⟩ := hI.2.1.1
  have hF := hI.2.1.2.1
  have hC := hI.1.1.2.2.1
  obtain ⟨o', oo, h7, h8⟩ : ∃ o' : Nat, ((o = 3 ∧ o' = 23) ∨ (o = 23 ∧ o' = 3)) ∧ gR h 2 7 = .ref o ∧ gR h 2 8 = .ref o' := by
    have hl := hC.1.2.1
    rcases hF.2.2.1 with ⟨q1, q2⟩ | ⟨q1, q2⟩
    · have e : (3 : Nat) = o := Value.ref.inj (q1.symm.trans hl)
      exact ⟨23, Or.inl ⟨e.symm, rfl⟩, hl, q2⟩
    · have e : (23 : Nat) = o := Value.ref.inj (q1.symm.trans hl)
      exact ⟨3, Or.inr ⟨e.symm, rfl⟩, hl, q2⟩
  have ho' : Oo o' := by
    rcases oo with ⟨-, e⟩ | ⟨-, e⟩
    · exact Or.inr e
    · exact Or.inl e
  have hr := Oo_rng ho'
  have hx67 : ∀ i, i < n → (gI h 67 i).toNatClampNeg < 256 ∧ gI h 67 i = nI ((gI h 67 i).toNatClampNeg) ∧ gI h 44 i = (nI (gI h 67 i).toNatClampNeg).toInt8.toInt32 := fun i hi => by
    obtain ⟨b, b1, b2, b3⟩ := t4 i hi
    have e : (gI h 67 i).toNatClampNeg = b := by rw [b2]; exact tc_nI (by omega)
    rw [e]
    exact ⟨b1, b2, b3⟩
  have hT : TpC (n, fun i => (gI h 67 i).toNatClampNeg) h := ⟨⟨t1, fun i hi => (hx67 i hi).1⟩, t2, fun i hi => (hx67 i hi).2.2⟩
  obtain ⟨hE, kF, b, r1, -, fin1⟩ := two_read ho' hS hT hF.2.2.2.1 hS t3 (fun i hi => (hx67 i hi).2.1)
  rcases fin1 with ⟨rfl, i1, T1, R1, C1, pre1, rel1⟩ | ⟨rfl, bad1⟩
  · have SE : St hE := rel1.1.1.1
    have f1 : FzC o' h hE := rel1.2.1.1
    have Q1 : ∀ {a j : Nat}, ¬ (o' ≤ a ∧ a ≤ o' + 19) → ¬ a = 43 → ¬ a = 45 → gI (hQ o o' hE) a j = gI h a j := fun {a j} q1 q2 q3 => by
      rw [gI_hQ (fun z => q2 z.1)]
      exact (f1.2 a j q1 (fun z => q2 z.1) q3).1
    have SQ : St (hQ o o' hE) := hQ_St SE
    have hp : gI (hQ o o' hE) 53 2 = nI p := by rw [Q1 (by omega) (by omega) (by omega)]; exact hI.1.2.2.1
    have hp2 : p < 41 := hI.1.2.2.2.1
    have e7 : gR hE 2 7 = .ref o := by rw [(f1.2 2 7 (by omega) (by omega) (by omega)).2.2]; exact h7
    have e8 : gR hE 2 8 = .ref o' := by rw [(f1.2 2 8 (by omega) (by omega) (by omega)).2.2]; exact h8
    obtain ⟨h1, s1, S1, ms1⟩ : ∃ h1, cal 13 [.ref 2] 89 (hQ o o' hE) = some (none, h1) ∧ St h1 ∧ Sm (hQ o o' hE) h1 (WSt o') := by
      obtain ⟨L1, Fs1, ss1, FA1, sa1, am1, st1, sd1, n1, hB1, hO1, -, lw1, fo1, a21, -⟩ := law_rel rel1
      obtain ⟨h1, s1, S1, z⟩ := settle_at ho' SQ gR_hQ7 hB1 hO1 (lw1.eq (fun a j q1 q2 => gI_hQ (by omega))) (fo1.eq (fun y j q => gI_hQ (by omega))) (a21.eq (fun y j q => gI_hQ (by omega))) hp hp2 (μ := 89) (by omega)
      exact ⟨h1, s1, S1, z.2.2.2.2.2.2.2.2.2.2.2.2.2.2⟩
    have G1 : ∀ {a j : Nat}, 65 < a → gI h1 a j = gI h a j := fun {a j} q => by
      rw [ms1.I (wSt_no (by omega)), Q1 (by omega) (by omega) (by omega)]
    obtain ⟨hE2, kE, b2, r2, r3, fin2⟩ := two_read ho' hS hT hF.2.2.2.1 S1 (by rw [G1 (by omega)]; exact t3) (fun i hi => by rw [G1 (by omega)]; exact (hx67 i hi).2.1)
    have ee := Option.some.inj (r1.symm.trans r2)
    have eh : hE2 = hE := (congrArg Prod.snd ee).symm
    have eb := congrArg Prod.fst ee
    simp only [Option.some.injEq, Value.int.injEq] at eb
    rw [eh, ← eb] at fin2
    rcases fin2 with ⟨-, i2, T2, R2, C2, pre2, rel2⟩ | ⟨z, -⟩
    · obtain ⟨L2, Fs, ss, FA, sa, am, st, sd, nn, hB, hO, ⟨hst, hsd⟩, lw, fo, a2, mn⟩ := law_rel rel2
      have f2 : FzM h1 kE := rel2.2.1.2
      have lwQ : LwO o' L2 st sd (hQ o o' hE) := lw.eq (fun a j q1 q2 => gI_hQ (by omega))
      obtain ⟨h1', s1', -, x1, x2, x3, x4, x5, x6, x7, x8, x9, y1, y2, y3, y4, y5, -⟩ := settle_at ho' SQ gR_hQ7 hB hO lwQ (fo.eq (fun y j q => gI_hQ (by omega))) (a2.eq (fun y j q => gI_hQ (by omega))) hp hp2 (μ := 89) (by omega)
      have eh2 : h1' = h1 := (congrArg Prod.snd (Option.some.inj (s1.symm.trans s1'))).symm
      rw [eh2] at x1 x2 x3 x4 x5 x6 x7 x8 x9 y1 y2 y3 y4 y5
      have M1 : M71 h1 := fun i hi => by
        obtain ⟨m, m1, m2⟩ := hF.2.2.2.2 i hi
        exact ⟨m, m1, by rw [G1 (by omega)]; exact m2⟩
      obtain ⟨k2, w1, SK2, w3, w4, w5, w6, w7, w8, w9⟩ := o_all rel2.1.2.1 hB hO (f2.1.2 M1) mn
      have E12 : ∀ a j, a < 66 → gI k2 a j = gI h1 a j ∧ gL k2 a j = gL h1 a j ∧ gR k2 a j = gR h1 a j := fun a j ha => by
        have y := w9.2 a j (wOA_lo ha)
        have z := f2.2 a j (by omega) (by omega) (by omega) (by omega)
        exact ⟨y.1.trans z.1, y.2.1.trans z.2.1, y.2.2.trans z.2.2⟩
      have I12 : ∀ {a j : Nat}, a < 66 → gI k2 a j = gI h1 a j := fun q => (E12 _ _ q).1
      have s : Sm h k2 WGd := ((((f1.to ho').mono (fun q hq => List.mem_append_left _ hq)).trans (show Sm hE (hQ o o' hE) WGd from (((Sm.rf hE _).sI rfl).sR rfl).sR rfl)).trans (ms1.mono (WSt_Gd ho'))).trans ((f2.to.mono (fun q hq => List.mem_append_right _ (List.mem_append_right _ (List.mem_append_left _ hq)))).trans (w9.mono (fun q hq => List.mem_append_right _ (List.mem_append_right _ (List.mem_append_right _ hq)))))
      have r27 : gR k2 2 7 = .ref o' := by rw [(E12 2 7 (by omega)).2.2, ms1.R (wSt_no (by omega))]; exact gR_hQ7
      have r28 : gR k2 2 8 = .ref o := by rw [(E12 2 8 (by omega)).2.2, ms1.R (wSt_no (by omega))]; exact gR_hQ8
      have J45 : ∀ {j : Nat}, gI k2 45 j = gI hE 45 j := fun {j} => by rw [I12 (by omega), ms1.I (wSt_no (by omega)), gI_hQ (by omega)]
      have lc : LawC k2 o' L2 := lawC_of ho' hB lwQ (fun a j q1 q2 => by rw [I12 (by omega), ms1.I (wSt_no (by omega))]) r27 (by rw [(E12 46 0 (by omega)).2.2]; exact x1) (by rw [(E12 53 0 (by omega)).2.2]; exact x8) (by rw [I12 (by omega)]; exact x2) (fun y hy => by rw [I12 (by omega)]; exact x3 y hy) (fun y hy => by rw [I12 (by omega), I12 (by omega)]; exact x4 y hy) (fun y hy => by rw [I12 (by omega)]; exact x5 y hy)
      have tm : ∃ t, t ≤ 100000 ∧ gI k2 58 6 = nI t ∧ gI k2 66 83 = nI t := by
        obtain ⟨t, u1, u2, u3⟩ := hI.2.1.2.2.2.1.2
        refine ⟨t, u1, ?_, ?_⟩
        · rw [I12 (by omega), ms1.I (wSt_no (by omega)), Q1 (by omega) (by omega) (by omega)]; exact u2
        · rw [w9.I rfl, (f2.2 66 83 (by omega) (by omega) (by omega) (by omega)).1, G1 (by omega)]; exact u3
      have fl : Flt k2 := by
        refine ⟨?_, ?_, ?_, fun i hi => ?_, fun i hi => ?_⟩
        · rw [J45, w9.I rfl, rel2.1.1.2.2.2.1.1, rel2.1.2.2.2.2.1]
        · rw [J45, w9.I rfl, rel2.1.1.2.2.2.1.2.1, rel2.1.2.2.2.2.2]
        · rw [r27, r28]
          rcases oo with ⟨e1, e2⟩ | ⟨e1, e2⟩
          · rw [e1, e2]; exact Or.inr ⟨rfl, rfl⟩
          · rw [e1, e2]; exact Or.inl ⟨rfl, rfl⟩
        · rw [(E12 1 i (by omega)).2.1, ms1.L (wSt_no (by omega)), gL_hQ, (f1.2 1 i (by omega) (by omega) (by omega)).2.1]
          exact hF.2.2.2.1 i hi
        · obtain ⟨m, m1, m2⟩ := f2.1.2 M1 i hi
          exact ⟨m, m1, by rw [w9.I rfl]; exact m2⟩
      have ly : Lyi k2 := by
        obtain ⟨a, m, u1, u2, u3, u4, -⟩ := hI.2.2.1
        exact ⟨a, 0, by rw [s.R (show wr WGd 64 0 = false by decide +kernel)]; exact u1, u2, by rw [Sm_kd s]; exact u3, by rw [Sm_ln s]; exact u4, Nat.zero_le _, by rw [I12 (by omega)]; exact y5, w7.2.2.1, fun i hi => absurd hi (by omega)⟩
      refine ⟨o', p, L2, h1, k2, nI (dN L2), ?_, ?_, inv_fresh (st := st) (sd := sd) SK2 hB lc (fun j hj => by rw [I12 (by omega)]; exact x6 j hj) w3 w4 w5 (by rw [I12 (by omega), ms1.I (wSt_no (by omega))]; exact hp) hp2 (fun j hj => by unfold rowC; rw [I12 (by omega)]; exact x7 j hj) w6 hst hsd (by rw [I12 (by omega)]; exact x9) (by rw [I12 (by omega)]; exact y1) (by rw [I12 (by omega)]; exact y2) w7 w8 (by rw [I12 (by omega)]; exact y3) (by rw [I12 (by omega)]; exact y4) tm ⟨by rw [I12 (by omega), ms1.I (wSt_no (by omega))]; exact gI_hQ0, by rw [w9.I rfl]; exact f2.1.1.2⟩ fl ly (hI.2.2.2.1.sm s (by decide +kernel) (by decide +kernel)) (hI.2.2.2.2.sm s (by decide +kernel))⟩
      · rw [← x2]
        exact s_orch_good hS h8 r1 SE e7 e8 s1 S1
      · rw [← w1]
        exact s_orchM_good S1 r3 rel2.1.2.1 rel2.1.2.2.2.2.1
    · exact absurd z (by decide)
  · obtain ⟨c0, q0, bc0, -, f10, -⟩ := bad1
    have SE : St hE := bc0.1
    have S1 : St (sI hE 43 1 0) := by simpa only [kd_sI, ln_sI, hl_sI, gL_sI, gR_sI, kd_sL, ln_sL, hl_sL, gI_sL, gR_sL, kd_sR, ln_sR, hl_sR, gI_sR, gL_sR, kd_cpI, ln_cpI, hl_cpI, gL_cpI, gR_cpI, gI_cpI, gI_sI, gL_sL, gR_sR, St_sI, St_sL, St_cpI, Nat.reduceEqDiff, Nat.reduceAdd, eq_self, false_and, and_false, true_and, and_true, and_self, if_true, if_false, false_or, or_false, true_or, or_true, not_true_eq_false, not_false_eq_true, reduceIte] using SE
    have G1 : ∀ {a j : Nat}, 65 < a → gI (sI hE 43 1 0) a j = gI h a j := fun {a j} q => by
      rw [gI_sI, if_neg (by omega)]
      exact (f10.2 a j (by omega) (by omega) (by omega)).1
    obtain ⟨hE2, kE, b2, r2, r3, fin2⟩ := two_read ho' hS hT hF.2.2.2.1 S1 (by rw [G1 (by omega)]; exact t3) (fun i hi => by rw [G1 (by omega)]; exact (hx67 i hi).2.1)
    have ee := Option.some.inj (r1.symm.trans r2)
    have eh : hE2 = hE := (congrArg Prod.snd ee).symm
    have eb := congrArg Prod.fst ee
    simp only [Option.some.injEq, Value.int.injEq] at eb
    rw [eh, ← eb] at fin2
    rcases fin2 with ⟨z, -⟩ | ⟨-, bad2⟩
    · exact absurd z (by decide)
    · obtain ⟨c, q, bc, bm, -⟩ := id bad2
      exact ⟨o, p, L, _, kE, -1, s_orch_bad hS h8 r1 SE, s_orchM_bad S1 r3 bm, inv_bad hI oo bad2⟩
