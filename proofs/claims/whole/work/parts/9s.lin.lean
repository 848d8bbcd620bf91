/-! a formula's line: what stays -/
theorem wFF {o w a j : Nat} (h : wr (WFF o w) a j = true) : (a = 43 ∧ 2 ≤ j) ∨ (a = 45 ∧ 3 ≤ j ∧ j ≤ 5) ∨ (a = o + 15 ∧ (j = 1 ∨ j = 5)) ∨ a = o + 16 ∨ (a = o + 17 ∧ j = w) ∨ (a = o + 18 ∧ j = w) := by
  unfold WFF WF wr wr1 at h
  simp only [List.any_cons, List.any_nil, Bool.or_eq_true, Bool.and_eq_true, beq_iff_eq, Bool.false_eq_true, or_false] at h
  omega
theorem wFF_no {o w a j : Nat} (h : ¬ ((a = 43 ∧ 2 ≤ j) ∨ (a = 45 ∧ 3 ≤ j ∧ j ≤ 5) ∨ (a = o + 15 ∧ (j = 1 ∨ j = 5)) ∨ a = o + 16 ∨ (a = o + 17 ∧ j = w) ∨ (a = o + 18 ∧ j = w))) : wr (WFF o w) a j = false := by
  cases c : wr (WFF o w) a j with
  | false => rfl
  | true => exact absurd (wFF c) h
theorem FzM.fm {w : Nat} {k0 k k' : MH} (hw : w ≤ 12) (f : FzM k0 k) (s : FM w k k') : FzM k0 k' := by
  refine ⟨⟨⟨s.1.1.trans f.1.1.1, by rw [(s.2 66 1 (by unfold wrM; omega)).1]; exact f.1.1.2⟩, fun z i hi => ?_⟩, fun a j h1 h2 h3 h4 => ?_⟩
  · by_cases c : i = w
    · rw [c]
      exact s.1.2 (f.1.2 z w (by omega))
    · obtain ⟨n, n1, n2⟩ := f.1.2 z i hi
      exact ⟨n, n1, by rw [(s.2 71 i (by unfold wrM; omega)).1]; exact n2⟩
  · have a1 := s.2 a j (by unfold wrM; omega)
    have a2 := f.2 a j h1 h2 h3 h4
    exact ⟨a1.1.trans a2.1, a1.2.1.trans a2.2.1, a1.2.2.trans a2.2.2⟩
theorem form_fr {o w nc : Nat} {T R C : List Int64} {h0 k0 h k h' k' : MH} (ho : Oo o) (hw : w ≤ 12) (fz : FzC o h0 h ∧ FzM k0 k) (n : Nms o T R C h k) (d : Dat o nc T R h k) (s : Sm h h' (WFF o w)) (s2 : FM w k k') : (FzC o h0 h' ∧ FzM k0 k') ∧ Nms o T R C h' k' ∧ Dat o nc T R h' k' ∧ (∀ c t pre P, ¬ c = w → c ≤ 12 → FoR o c t pre h k → FoR o c t (pre ++ P) h' k') ∧ gI h' 45 2 = gI h 45 2 ∧ gI k' 66 49 = gI k 66 49 ∧ (∀ j, ¬ j = w → gI h' (o + 18) j = gI h (o + 18) j) := by
  have hr := Oo_rng ho
  have I : ∀ {a j : Nat}, o ≤ a → a ≤ o + 14 → gI h' a j = gI h a j ∧ gL h' a j = gL h a j ∧ gR h' a j = gR h a j := fun q1 q2 => s.2 _ _ (wFF_no (by omega))
  have J : ∀ {a j : Nat}, ¬ wrM w a j → gI k' a j = gI k a j := fun q => (s2.2 _ _ q).1
  obtain ⟨⟨n1, n2, n3⟩, ⟨n4, n5, n6⟩, n7, n8, n9⟩ := n
  obtain ⟨d1, d2, d3, d4, d5, d6⟩ := d
  have L : ∀ j, gL k' 68 j = gL k 68 j := fun j => (s2.2 68 j (by unfold wrM; omega)).2.1
  refine ⟨⟨fz.1.sm s (fun a j q => by have := wFF q; omega), fz.2.fm hw s2⟩, ⟨⟨n1.eq s.1 (I (by omega) (by omega)).2.2 (I (by omega) (by omega)).1 (fun j => (I (by omega) (by omega)).2.1), n2.eq L, by rw [J (by unfold wrM; omega)]; exact n3⟩, ⟨n4.eq s.1 (I (by omega) (by omega)).2.2 (I (by omega) (by omega)).1 (fun j => (I (by omega) (by omega)).2.1), n5.eq L, by rw [J (by unfold wrM; omega)]; exact n6⟩, n7.eq s.1 (I (by omega) (by omega)).2.2 (I (by omega) (by omega)).1 (fun j => (I (by omega) (by omega)).2.1), n8.eq L, by rw [J (by unfold wrM; omega)]; exact n9⟩, ⟨d1.eq (fun j => (I (by omega) (by omega)).1) (fun j => J (by unfold wrM; omega)), d2.eq (fun j => (I (by omega) (by omega)).1) (fun j => J (by unfold wrM; omega)), d3.eq (fun y j _ _ => (I (by omega) (by omega)).1) (fun a j _ _ => J (by unfold wrM; omega)), d4.eq (fun y j _ _ => (I (by omega) (by omega)).1) (fun j => J (by unfold wrM; omega)), d5.eq (fun j => (I (by omega) (by omega)).1) (fun j => (I (by omega) (by omega)).1), d6.eq (fun j _ _ => (I (by omega) (by omega)).1) (fun j _ _ => J (by unfold wrM; omega))⟩, fun c t pre P hc hc2 f => ?_, s.I (wFF_no (by omega)), J (by unfold wrM; omega), fun j hj => s.I (wFF_no (by omega))⟩
  have f2 := f.mono (Nat.le_refl t) P
  exact f2.eq (s.I (wFF_no (by omega))) (s.I (wFF_no (by omega))) (J (by unfold wrM; omega)) (fun j q1 q2 => ⟨J (by unfold wrM; omega), J (by unfold wrM; omega)⟩)
def RelE (x : Txt) (o i nc : Nat) (T R C : List Int64) (pre : List (Int32 × Int32)) (h0 k0 h k : MH) : Prop :=
  (BsC x o i h ∧ BsM x i k) ∧ (FzC o h0 h ∧ FzM k0 k) ∧ Nms o T R C h k ∧ Dat o nc T R h k ∧ Fos o C.length T.length pre h k ∧ 4 * nNt pre ≤ tkS (tks x i) + 1
def LOut (x : Txt) (o i0 : Nat) (h0 k0 h k : MH) : Prop := (∃ i T R C pre, i0 < i ∧ RelE x o i C.length T R C pre h0 k0 h k) ∨ (∃ c p, BC o c p h ∧ BM c p k ∧ FzC o h0 h ∧ FzM k0 k)
theorem Out.L {x : Txt} {o i0 : Nat} {h0 k0 h k : MH} (q : Out x o i0 h0 k0 h k) : LOut x o i0 h0 k0 h k := by
  rcases q with ⟨i, T, R, C, pre, hi, r1, r2, r3, r4, r5, r6⟩ | q
  · exact Or.inl ⟨i, T, R, C, pre, hi, r1, r2, r3, r4, r5, by omega⟩
  · exact Or.inr q
theorem ln_aim {x : Txt} {o i n : Nat} {T R C : List Int64} {pre : List (Int32 × Int32)} {h0 k0 h k : MH} (ho : Oo o) (r : Rel x o i C.length T R C pre h0 k0 h k) (hn : n < 16) (h2 : gI h 45 2 = nI n) (h3 : n &&& 1 = 0) (hw : tkK (tks x i) = 2) {μ ν : Nat} (hμ : 86 < μ) (hν : 8 < ν) :
    ∃ h1 h' k', cal 93 [.ref 45, .int 1] μ h = some (none, h1) ∧ St h1 ∧ cal 78 [.ref 45, .int 12] μ h1 = some (none, h') ∧ cal 245 [.ref 66] ν (sI k 66 49 (nI (n ||| 1))) = some (none, k') ∧ LOut x o i h0 k0 h' k' := by
  have hr := Oo_rng ho
  have hb : Bt4 1 := Or.inl rfl
  obtain ⟨-, -, b3, -, b5⟩ := bt4 hb hn
  obtain ⟨b5, b6⟩ := b5 rfl
  obtain ⟨h1, s1, B1, m1, BA⟩ := (c_once r.1.1 hb hn h2 (μ := μ) (by omega)).1 h3
  obtain ⟨⟨B, D⟩, ⟨f1, f2⟩, ⟨⟨n1, n2, n3⟩, ⟨n4, n5, n6⟩, n7, n8, n9⟩, ⟨d1, d2, d3, d4, d5, d6⟩, fo, tp⟩ := r
  have hx := B.2.1.1
  have hSk : St (sI k 66 49 (nI (n ||| 1))) := by simpa only [kd_sI, ln_sI, hl_sI, gL_sI, gR_sI, kd_sL, ln_sL, hl_sL, gI_sL, gR_sL, kd_sR, ln_sR, hl_sR, gI_sR, gL_sR, kd_cpI, ln_cpI, hl_cpI, gL_cpI, gR_cpI, gI_cpI, gI_sI, gL_sL, gR_sR, St_sI, St_sL, St_cpI, Nat.reduceEqDiff, Nat.reduceAdd, eq_self, false_and, and_false, true_and, and_true, and_self, if_true, if_false, false_or, or_false, true_or, or_true, not_true_eq_false, not_false_eq_true, reduceIte] using D.1
  have DA : BsM x i (sI k 66 49 (nI (n ||| 1))) := D.upd hSk (fun a j ha => ⟨by rw [gI_sI, if_neg (by omega)], rfl⟩)
  obtain ⟨k1, t1, D1, q1⟩ := DA.step (by omega) (μ := 8) (by omega)
  have q19 := WT_19 q1
  have I : ∀ {a j : Nat}, ¬ a = 43 → ¬ a = 45 → gI h1 a j = gI h a j := fun z1 z2 => by
    rw [m1.I (wS_no z1 z2), gI_sI, if_neg (fun z => z2 z.1)]
  have I2 : gI h1 45 2 = nI (n ||| 1) := by rw [m1.I rfl, gI_sI, if_pos ⟨rfl, rfl⟩]
  have L : ∀ {a j : Nat}, ¬ a = 43 → ¬ a = 45 → gL h1 a j = gL h a j := fun z1 z2 => by
    rw [m1.L (wS_no z1 z2), gL_sI]
  have Rr : ∀ {a j : Nat}, ¬ a = 43 → ¬ a = 45 → gR h1 a j = gR h a j := fun z1 z2 => m1.R (wS_no z1 z2)
  have J : ∀ {a j : Nat}, ¬ a = 66 → ¬ a = 68 → gI k1 a j = gI k a j := fun z1 z2 => by
    rw [q19.I (wT_no z1 z2), gI_sI, if_neg (fun z => z1 z.1)]
  have K : ∀ {j : Nat}, 10 ≤ j → ¬ j = 49 → gI k1 66 j = gI k 66 j := fun z1 z2 => by
    rw [q19.I (wT_66 z1), gI_sI, if_neg (fun z => z2 z.2)]
  have K2 : gI k1 66 49 = nI (n ||| 1) := by rw [q1.I rfl, gI_sI, if_pos ⟨rfl, rfl⟩]
  have KL : ∀ j, gL k1 68 j = gL k 68 j := fun j => by rw [q1.L rfl, gL_sI]
  have Nm1 : Nms o T R C h1 k1 := ⟨⟨n1.eq m1.1 (Rr (by omega) (by omega)) (I (by omega) (by omega)) (fun j => L (by omega) (by omega)), n2.eq KL, by rw [K (by omega) (by omega)]; exact n3⟩, ⟨n4.eq m1.1 (Rr (by omega) (by omega)) (I (by omega) (by omega)) (fun j => L (by omega) (by omega)), n5.eq KL, by rw [K (by omega) (by omega)]; exact n6⟩, n7.eq m1.1 (Rr (by omega) (by omega)) (I (by omega) (by omega)) (fun j => L (by omega) (by omega)), n8.eq KL, by rw [K (by omega) (by omega)]; exact n9⟩
  have Da1 : Dat o C.length T R h1 k1 := ⟨d1.eq (fun j => I (by omega) (by omega)) (fun j => J (by omega) (by omega)), d2.eq (fun j => I (by omega) (by omega)) (fun j => J (by omega) (by omega)), d3.eq (fun y j _ _ => I (by omega) (by omega)) (fun a j _ _ => J (by omega) (by omega)), d4.eq (fun y j _ _ => I (by omega) (by omega)) (fun j => J (by omega) (by omega)), d5.eq (fun j => I (by omega) (by omega)) (fun j => I (by omega) (by omega)), d6.eq (fun j _ _ => I (by omega) (by omega)) (fun j _ _ => K (by omega) (by omega))⟩
  obtain ⟨⟨x1, x2, x3⟩, ⟨u, u1, u2, u3, u4⟩, x4, m, y1, y2, y3, y4, y5⟩ := fo
  have cd : Cds o pre h1 k1 := ⟨⟨by rw [I (by omega) (by omega)]; exact x1, fun j s hj => by rw [I (by omega) (by omega)]; exact x2 j s hj, x3⟩, u, u1, u2, by rw [I (by omega) (by omega)]; exact u3, by rw [K (by omega) (by omega)]; exact u4⟩
  have hlt := tks_lt hx (show ¬ tkK (tks x i) = 0 by omega)
  have fz1 : FzC o h0 h1 ∧ FzM k0 k1 := ⟨(f1.sI (by omega)).sm m1 WS_C, (f2.sI (by omega)).sm q19 WT_M⟩
  obtain ⟨h', k', e1, e2, e3, e4, e5⟩ := ln_form ho (w := 12) (by omega) B1 D1 Nm1.1.1 Nm1.1.2.1 Nm1.1.2.2 cd (Nat.le_trans tp (tks_mono hx (by omega))) (by omega) (μ := μ) (ν := 8) hμ (by omega)
  have e2 : cal 232 [.ref 66, .int 12] 8 k1 = some (none, k') := e2
  refine ⟨h1, h', k', s1, B1.1, e1, ?_, ?_⟩
  · rw [C_245 66 ν _ (K_66 hSk) (by decide) hν]
    have hS := hSk
    simp (disch := first | assumption | exact b2i_01 _ | decide | omega | (simp only [kd_sI, ln_sI, hl_sI, gL_sI, gR_sI, kd_sL, ln_sL, hl_sL, gI_sL, gR_sL, kd_sR, ln_sR, hl_sR, gI_sR, gL_sR, kd_cpI, ln_cpI, hl_cpI, gL_cpI, gR_cpI, gI_cpI, gI_sI, gL_sL, gR_sR, St_sI, St_sL, St_cpI, Nat.reduceEqDiff, Nat.reduceAdd, eq_self, false_and, and_false, true_and, and_true, and_self, if_true, if_false, false_or, or_false, true_or, or_true, not_true_eq_false, not_false_eq_true, reduceIte, K_66, F_66_0, F_66_10, F_66_11, F_66_12, F_66_13, F_66_14, F_66_15, F_66_16, F_66_17, F_66_18, F_66_25, F_66_26, F_66_27, F_66_28, F_66_29, F_66_30, F_66_31, F_66_32, F_66_33, F_66_34, F_66_35, F_66_36, F_66_37, F_66_38, F_66_39, F_66_60, F_66_61, F_66_62, F_66_63, F_66_66, F_66_68, F_66_69, F_66_71, F_66_72, F_66_73, F_66_74, F_66_77, F_66_78, F_66_79, F_66_80, F_66_81, F_66_84, F_66_85, F_66_86, F_66_87, hS, t1, e2, List.length_nil, List.length_cons, Nat.zero_le] <;> first | done | decide | omega | fail) | fail) only [B_245_0, e_aload_n_0, e_call_1, psh_s, psh_n, Option.bind_some, e_bipush_12, e_call_2, R_245, kd_sI, ln_sI, hl_sI, gL_sI, gR_sI, kd_sL, ln_sL, hl_sL, gI_sL, gR_sL, kd_sR, ln_sR, hl_sR, gI_sR, gL_sR, kd_cpI, ln_cpI, hl_cpI, gL_cpI, gR_cpI, gI_cpI, gI_sI, gL_sL, gR_sR, St_sI, St_sL, St_cpI, Nat.reduceEqDiff, Nat.reduceAdd, eq_self, false_and, and_false, true_and, and_true, and_self, if_true, if_false, false_or, or_false, true_or, or_true, not_true_eq_false, not_false_eq_true, reduceIte, K_66, F_66_0, F_66_10, F_66_11, F_66_12, F_66_13, F_66_14, F_66_15, F_66_16, F_66_17, F_66_18, F_66_25, F_66_26, F_66_27, F_66_28, F_66_29, F_66_30, F_66_31, F_66_32, F_66_33, F_66_34, F_66_35, F_66_36, F_66_37, F_66_38, F_66_39, F_66_60, F_66_61, F_66_62, F_66_63, F_66_66, F_66_68, F_66_69, F_66_71, F_66_72, F_66_73, F_66_74, F_66_77, F_66_78, F_66_79, F_66_80, F_66_81, F_66_84, F_66_85, F_66_86, F_66_87, t1, e2, List.length_nil, List.length_cons, Nat.zero_le]
  · obtain ⟨g1, g2, g3, g4, g5, g6, g7⟩ := form_fr ho (w := 12) (by omega) fz1 Nm1 Da1 e3 e4
    rcases e5 with ⟨i', F, i1, i2, i3, i4, ⟨c1, c2⟩, i6⟩ | ⟨c, p, b1, b2⟩
    · refine Or.inl ⟨i', T, R, C, pre ++ F, by omega, ⟨i2, i3⟩, g1, g2, g3, ⟨c1, c2, fun c hc => ?_, n ||| 1, b3, by rw [g5]; exact I2, by rw [g6]; exact K2, fun _ => i4, fun z => by omega⟩, i6⟩
      have hC := n7.2.1
      refine g4 c _ pre F (by omega) (by omega) ((x4 c hc).eq (I (by omega) (by omega)) (I (by omega) (by omega)) (J (by omega) (by omega)) (fun j _ _ => ⟨J (by omega) (by omega), J (by omega) (by omega)⟩))
    · exact Or.inr ⟨c, p, b1, b2, g1.1, g1.2⟩
