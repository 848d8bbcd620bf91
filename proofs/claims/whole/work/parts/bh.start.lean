/-! a new object of each: what holds before the first call -/
theorem law_0 : ∃ L : LD, (dT L = 0 ∧ dR L = 0 ∧ dC L = 0 ∧ dN L = 1) ∧ LawB L ∧ Own L (fun _ => []) [] false ∧ (∀ i j, ¬ i = 5 → ¬ i = 6 → ¬ i = 7 → L.2 i j = if i = 8 ∧ j = 2 then 1 else 0) ∧ (∀ k, dAim L k = 0) ∧ ∀ k, dApp L k = 0 := by
  obtain ⟨L, ⟨lT, lR, lC, lN⟩, lH, lS, lD, lApp, lAbv, lAim⟩ := law_of 0 0 0 (fun _ => 0) (fun _ => 0) (fun i j => if i = 8 ∧ j = 2 then 1 else 0) (fun _ => []) [] false
  have n1 : dNs L = 1 := by
    unfold dNs
    rw [if_neg (by omega)]
  have hN : dN L = 1 := lN.trans n1
  have hA : ∀ k, dApp L k = 0 := fun k => by
    rw [lApp, lC]
    rfl
  have hI : ∀ k, dAim L k = 0 := fun k => by
    rw [lAim]
    unfold amv
    rw [if_neg (by decide)]
  have p0 : 0 < 2 ^ dC L := Nat.pow_pos (by omega)
  refine ⟨L, ⟨lT, lR, lC, hN⟩, ⟨⟨by omega, by omega, by omega, by omega, by omega⟩, fun c hc => absurd hc (by omega), fun t ht => ⟨0, p0, ?_, fun c hc => absurd hc (by omega)⟩, fun k hk => ⟨0, p0, hA k⟩, fun c hc => absurd hc (by omega), fun c hc => absurd hc (by omega), fun c x hc => absurd hc (by omega), ⟨0, p0, ?_⟩, ⟨1, 0, by omega, by omega, ?_, ?_⟩, fun t ht => absurd ht (by omega)⟩, ⟨lN, lApp, lAbv, lAim⟩, lD, hI, hA⟩
  · exact lD 1 t (by decide) (by decide) (by decide)
  · exact lD 8 0 (by decide) (by decide) (by decide)
  · exact lD 8 2 (by decide) (by decide) (by decide)
  · exact lD 8 3 (by decide) (by decide) (by decide)
theorem gB_lw {L : Nat} {xs : Nat → Int32} {D : LD} (hD : dT D = 0 ∧ dR D = 0 ∧ dC D = 0 ∧ dN D = 1) (lD : ∀ i j, ¬ i = 5 → ¬ i = 6 → ¬ i = 7 → D.2 i j = if i = 8 ∧ j = 2 then 1 else 0) : LwO 3 D 0 0 (gB L xs) := by
  obtain ⟨lT, lR, lC, -⟩ := hD
  obtain ⟨⟨z1, z2, z3⟩, z4, ⟨z5, z6, z7, z8, z9⟩, ⟨z10, z11⟩, -⟩ := gz_f
  refine ⟨⟨by rw [lT, gB_I (by omega)]; exact z1, by rw [lR, gB_I (by omega)]; exact z2, by rw [lC, gB_I (by omega)]; exact z3⟩, fun t ht => absurd ht (by omega), fun t ht => ?_, fun c hc => absurd hc (by omega), ⟨?_, ?_, ?_, ?_, ?_⟩, by rw [gB_I (by omega)]; exact z10, by rw [gB_I (by omega)]; exact z11⟩
  · rw [gB_I (by omega), show dMem D t = 0 from lD 1 t (by decide) (by decide) (by decide)]; exact z4 t ht
  · rw [gB_I (by omega), show dForb D = 0 from lD 8 0 (by decide) (by decide) (by decide)]; exact z5
  · rw [gB_I (by omega), show dLink D = 0 from lD 8 1 (by decide) (by decide) (by decide)]; exact z6
  · rw [gB_I (by omega), show dBear D = 1 from lD 8 2 (by decide) (by decide) (by decide)]; exact z7
  · rw [gB_I (by omega), show dSuck D = 0 from lD 8 3 (by decide) (by decide) (by decide)]; exact z8
  · rw [gB_I (by omega), show dUnit D = 0 from lD 8 4 (by decide) (by decide) (by decide)]; exact z9
theorem szSH (L : Nat) : ((SH L).map (fun q => q.2)).sum = L + 54631 := by
  unfold SH
  simp only [List.map_cons, List.map_nil, List.sum_cons, List.sum_nil] <;> omega
theorem start_inv {L : Nat} (hL : L ≤ 3072) (xs : Nat → Int32) : ∃ g k, cal 1 [.ref 2] 90 (gh0 L xs) = some (none, g) ∧ g.1.length = 66 ∧ cal 204 [.ref 66] 90 (nC g 12 88) = some (none, k) ∧ Lp L k := by
  have ho : Oo 3 := Or.inl rfl
  obtain ⟨D, hD, hB, hO, lD, hAim, hApp⟩ := law_0
  have lw := gB_lw (L := L) (xs := xs) hD lD
  obtain ⟨lT, lR, lC, lN⟩ := hD
  obtain ⟨-, -, -, -, ⟨f1, f2, f3, f4, f5, f6⟩, f7⟩ := gz_f
  obtain ⟨r1, r2, r3, r4⟩ := gz_r
  have hl7 : gR (gB L xs) 2 7 = .ref 3 := by rw [gB_R (by omega)]; exact r1
  have fo : Fo2 3 D (fun _ => []) (fun _ => 0) (gB L xs) := ⟨⟨lw.1.2.2, by omega⟩, fun c hc => absurd hc (by omega)⟩
  have a2 : Am2 3 D [] 0 false (gB L xs) := Or.inl ⟨rfl, by rw [gB_I (by omega)]; exact f1⟩
  have p0 : gI (gB L xs) 53 2 = nI 0 := by rw [gB_I (by omega)]; exact f2
  obtain ⟨g1, s1, S1, x1, x2, x3, x4, x5, x6, x7, x8, x9, y1, y2, y3, y4, y5, ms⟩ := settle_at (p := 0) ho gB_St hl7 hB hO lw fo a2 p0 (by omega) (μ := 9) (by omega)
  obtain ⟨c1, c2⟩ := go_cal (k := 13) (a := [.ref 2]) (by omega) (cuS_m (cuV_r (by omega)) cuS_n) gB_Cl s1
  rw [gB_cut] at c1
  have sh : (cutH g1).1 = SHA L := by
    show g1.1.take 66 = _
    have lA := lA L
    rw [c2, gB_sh, SH_ab, List.take_append_of_le_length (by omega), List.take_of_length_le (by omega)]
  have len : (cutH g1).1.length = 66 := by rw [sh]; exact lA L
  have bsh : (nC (cutH g1) 12 88).1 = S67 L := by
    show (cutH g1).1 ++ [(12, 88)] = _
    rw [sh]
    rfl
  have B0 : ∀ {a j : Nat}, a < 66 → gI (nC (cutH g1) 12 88) a j = gI g1 a j := fun {a j} ha => by
    rw [gI_nC, len, if_neg (by omega), gI_cut ha]
  have BR : ∀ {a j : Nat}, a < 66 → gR (nC (cutH g1) 12 88) a j = gR g1 a j := fun {a j} ha => by
    rw [gR_nC, len, if_neg (by omega), gR_cut ha]
  have BL : ∀ {a j : Nat}, a < 66 → gL (nC (cutH g1) 12 88) a j = gL g1 a j := fun {a j} ha => by
    show (if a = (cutH g1).1.length then (0 : Int64) else gL (cutH g1) a j) = _
    rw [len, if_neg (by omega), gL_cut ha]
  have B6 : ∀ {j : Nat}, gI (nC (cutH g1) 12 88) 66 j = 0 := fun {j} => by
    rw [gI_nC, len, if_pos rfl]
  have ke := moN_Ke (h := nC (cutH g1) 12 88) (by rw [hl_nC, len]; omega)
  have Sm1 : St (moN (nC (cutH g1) 12 88)) := moN_St bsh (fun j => by rw [gR_nC, len, if_pos rfl]) (fun q hq z => by rw [BR z]; exact S1.2 q hq)
  have z6 : Z6 (nC (cutH g1) 12 88) := fun a j ha => by
    rw [gI_nC]
    split
    · rfl
    · exact if_neg (show ¬ a < 66 by omega)
  have mz := moN_Z z6
  obtain ⟨k, e1, e2, e3, e4, SK, w⟩ := s_Mo_clear Sm1 (fun j _ => mz 94 j (by omega))
  have ksh : k.1 = SH L := w.1.trans (moN_sh bsh)
  have I : ∀ {a j : Nat}, a < 66 → gI k a j = gI g1 a j := fun {a j} ha => by
    have wl : wr WCl a j = false := by
      unfold WCl wr wr1
      simp only [List.any_cons, List.any_nil, show (66 == a) = false by simpa using (show ¬ 66 = a by omega), show (94 == a) = false by simpa using (show ¬ 94 = a by omega), Bool.false_and, Bool.or_self]
    rw [w.I wl, ke.2.1 a j (by omega) (by omega), B0 ha]
  have R : ∀ {a j : Nat}, a < 66 → gR k a j = gR g1 a j := fun {a j} ha => by
    have wl : wr WCl a j = false := by
      unfold WCl wr wr1
      simp only [List.any_cons, List.any_nil, show (66 == a) = false by simpa using (show ¬ 66 = a by omega), show (94 == a) = false by simpa using (show ¬ 94 = a by omega), Bool.false_and, Bool.or_self]
    rw [w.R wl, (ke.2.2 a j ha).2, BR ha]
  have G : ∀ {j : Nat}, gL k 1 j = gL (gB L xs) 1 j := fun {j} => by
    rw [w.L rfl, (ke.2.2 1 j (by omega)).1, BL (by omega), ms.L (wSt_no (by omega))]
  have Z : ∀ {j : Nat}, ¬ j = 3 → wr WCl 66 j = false → gI k 66 j = 0 := fun {j} q wl => by
    rw [w.I wl, ke.2.1 66 j (by omega) (by omega), B6]
  have lc : LawC k 3 D := lawC_of ho hB lw (fun a j q1 q2 => by rw [I (by omega), ms.I (wSt_no (by omega))]) (by rw [R (by omega), ms.R (wSt_no (by omega))]; exact hl7) (by rw [R (by omega)]; exact x1) (by rw [R (by omega)]; exact x8) (by rw [I (by omega)]; exact x2) (fun y hy => by rw [I (by omega)]; exact x3 y hy) (fun y hy => by rw [I (by omega), I (by omega)]; exact x4 y hy) (fun y hy => by rw [I (by omega)]; exact x5 y hy)
  have lm : LawM k D := by
    refine ⟨⟨by rw [lT]; exact Z (by omega) rfl, by rw [lR]; exact Z (by omega) rfl, by rw [lC]; exact Z (by omega) rfl, by rw [lN]; exact e2⟩, fun t ht => absurd ht (by omega), fun t ht => ?_, fun c hc => absurd hc (by omega), ⟨?_, ?_, ?_, ?_, ?_⟩, fun j hj => ?_, fun c hc => absurd hc (by omega)⟩
    · rw [w.I rfl, mz 91 t (by omega)]; exact (lD 1 t (by decide) (by decide) (by decide)).symm
    · rw [Z (by omega) rfl]; exact (lD 8 0 (by decide) (by decide) (by decide)).symm
    · rw [Z (by omega) rfl]; exact (lD 8 1 (by decide) (by decide) (by decide)).symm
    · rw [e3]; exact (lD 8 2 (by decide) (by decide) (by decide)).symm
    · rw [Z (by omega) rfl]; exact (lD 8 3 (by decide) (by decide) (by decide)).symm
    · rw [Z (by omega) rfl]; exact (lD 8 4 (by decide) (by decide) (by decide)).symm
    · rw [w.I rfl, mz 92 j (by omega), hApp]
  have ov : OvM D k := ⟨fun t ht => by
    rw [w.I rfl, mz 85 t (by omega)]; exact (lD 9 t (by decide) (by decide) (by decide)).symm, fun c hc => absurd hc (by omega), fun c d hc => absurd hc (by omega)⟩
  have rM : ∀ j, j < 27 → gI k 94 j = bgn (nI 0) (nI 0) j := fun j hj => by
    rw [e4 j hj]
    unfold bgn
    by_cases c : j < 3
    · rw [if_pos c]
      rcases (show j = 0 ∨ j = 1 ∨ j = 2 by omega) with rfl | rfl | rfl <;> rfl
    · rw [if_neg c, if_neg (by omega), if_neg (by omega), if_neg (by omega)]
      by_cases d : j < 15
      · rw [if_pos d, if_pos ((bit_0 (nI 0) (by omega)).mpr (tbt_0 _))]
      · rw [if_neg d]
  have fl : Flt k := by
    refine ⟨?_, ?_, Or.inl ⟨?_, ?_⟩, fun i hi => ?_, fun i hi => ⟨0, by omega, ?_⟩⟩
    · rw [I (by omega), ms.I (wSt_no (by omega)), Z (by omega) rfl, gB_I (by omega)]; exact f5
    · rw [I (by omega), ms.I (wSt_no (by omega)), w.I rfl, moN_3 (by rw [hl_nC, len]; omega), gB_I (by omega)]; exact f6
    · rw [R (by omega), ms.R (wSt_no (by omega)), gB_R (by omega)]; exact r1
    · rw [R (by omega), ms.R (wSt_no (by omega)), gB_R (by omega)]; exact r2
    · rw [G, gB_L]; exact f7 i hi
    · rw [w.I rfl]; exact mz 71 i (by omega)
  have r64 : gR k 64 0 = .ref 65 := by rw [R (by omega), ms.R (wSt_no (by omega)), gB_R (by omega)]; exact r3
  have r29 : gR k 2 9 = .null := by rw [R (by omega), ms.R (wSt_no (by omega)), gB_R (by omega)]; exact r4
  have kd65 : kd k 65 = 20 := by unfold kd; rw [ksh]; rfl
  have ln65 : ln k 65 = 40 := by unfold ln; rw [ksh]; rfl
  refine ⟨cutH g1, k, gs_all c1, len, s_Mo_init ⟨?_, by rw [hl_nC, len]; omega⟩ (by omega) e1, ⟨3, 0, D, ?_⟩, ?_, ?_, ?_⟩
  · rw [kdN, len, if_pos rfl]
  · exact inv_fresh (st := 0) (sd := 0) SK hB lc (fun j hj => by rw [I (by omega)]; exact x6 j hj) lm (Or.inl ⟨Z (by omega) rfl, fun j _ => hAim j⟩) ov (by rw [I (by omega), ms.I (wSt_no (by omega))]; exact p0) (by omega) (fun j hj => by unfold rowC; rw [I (by omega)]; exact x7 j hj) rM (Nat.pow_pos (by omega)) (by omega) (by rw [I (by omega)]; exact x9) (by rw [I (by omega)]; exact y1) (by rw [I (by omega)]; exact y2) ⟨Z (by omega) rfl, Z (by omega) rfl, Z (by omega) rfl, Z (by omega) rfl, Z (by omega) rfl⟩ (fun j hj => by rw [w.I rfl]; exact mz 110 j (by omega)) (by rw [I (by omega)]; exact y3) (by rw [I (by omega)]; exact y4) ⟨0, by omega, by rw [I (by omega), ms.I (wSt_no (by omega)), gB_I (by omega)]; exact f3, Z (by omega) rfl⟩ ⟨by rw [I (by omega), ms.I (wSt_no (by omega)), gB_I (by omega)]; exact f4, Z (by omega) rfl⟩ fl ⟨65, 0, r64, Or.inl rfl, kd65, Or.inl ln65, Nat.zero_le _, by rw [I (by omega)]; exact y5, Z (by omega) rfl, fun i hi => absurd hi (by omega)⟩ (Or.inl r29) ⟨L, hL, 0, 0, Or.inl ⟨r29, rfl⟩, Or.inl ⟨r64, rfl⟩, by rw [ksh]; exact Nat.le_of_ble_eq_true rfl, by unfold szH; rw [ksh, szSH]; omega⟩
  · rw [ksh]; exact Nat.le_of_ble_eq_true rfl
  · unfold kd; rw [ksh]; rfl
  · unfold ln; rw [ksh]; rfl
/-- the small machine runs the law to its end, with 1 -/
theorem h_run (L : Nat) (xs : Nat → Int32) (hL : L ≤ 3072) : ∃ h', rn 0 90 (blk 0 0) (ent 0 [.ref 0]) [] (hp0 L xs) = some (some (.int 1), h') ∧ h'.1.length ≤ 500 ∧ szH h' ≤ 200000 := by
  obtain ⟨g, k, c1, len, c2, hLp⟩ := start_inv hL xs
  obtain ⟨h', e, b⟩ := lw_run p_orchard hL hLp
  refine ⟨h', ?_, b⟩
  rw [← e]
  show rn 0 90 B_0_0 [some (.ref 0), none, none, none] [] (hp0 L xs) = _
  rw [B_0_0, e_new_11, e_dup_a, rn_cal _ _ _ _ _ _ _ _ (by simp) (by simp)]
  show (cal 1 [.ref 2] 90 (gh0 L xs)).bind (fun r => rn 0 90 (.astore_n 1 :: .new 12 :: .dup :: .invokeinterface 204 1 :: .astore_n 2 :: .iconst 0 :: .istore_n 3 :: .goto_w 18 :: []) [some (.ref 0), none, none, none] (psh r.1 [.ref 2]) r.2) = _
  rw [c1]
  show rn 0 90 (.astore_n 1 :: .new 12 :: .dup :: .invokeinterface 204 1 :: .astore_n 2 :: .iconst 0 :: .istore_n 3 :: .goto_w 18 :: []) [some (.ref 0), none, none, none] [.ref 2] g = _
  rw [e_astore_n_1, e_new_12, len, e_dup_a, rn_cal _ _ _ _ _ _ _ _ (by simp) (by simp)]
  show (cal 204 [.ref 66] 90 (nC g 12 88)).bind (fun r => rn 0 90 (.astore_n 2 :: .iconst 0 :: .istore_n 3 :: .goto_w 18 :: []) [some (.ref 0), some (.ref 2), none, none] (psh r.1 [.ref 66]) r.2) = _
  rw [c2]
  show rn 0 90 (.astore_n 2 :: .iconst 0 :: .istore_n 3 :: .goto_w 18 :: []) [some (.ref 0), some (.ref 2), none, none] [.ref 66] k = _
  rw [e_astore_n_2, e_iconst_0, e_istore_n_3, e_gotow, T_0_18]
  rfl
