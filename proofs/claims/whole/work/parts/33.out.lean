/-! the laws' cells stay where a run writes elsewhere -/
def lsf (q : Nat × Option Nat) : Bool := q.1 == 43 || q.1 == 44 || q.1 == 45 || q.1 == 48 || q.1 == 52 || (q.1 == 53 && q.2 != none && q.2 != some 0) || decide (54 ≤ q.1)
theorem wr_lsf {l : WL} (hl : l.all lsf = true) {a k : Nat} (ha : a = 2 ∨ (3 ≤ a ∧ a ≤ 42) ∨ a = 46 ∨ a = 47 ∨ a = 49 ∨ a = 50 ∨ a = 51 ∨ (a = 53 ∧ k = 0)) : wr l a k = false := by
  unfold wr
  rw [List.any_eq_false]
  intro q hq
  have h1 := List.all_eq_true.mp hl q hq
  obtain ⟨q1, q2⟩ := q
  unfold lsf at h1
  simp only [Bool.or_eq_true, Bool.and_eq_true, beq_iff_eq, bne_iff_ne, ne_eq, decide_eq_true_eq] at h1
  unfold wr1
  simp only [Bool.and_eq_true, beq_iff_eq, not_and, Bool.not_eq_true]
  intro e
  subst e
  cases q2 with
  | none => simp at h1; omega
  | some j =>
    by_cases z : q1 = 53
    · simp only [beq_eq_false_iff_ne, ne_eq]
      intro e2
      subst e2
      simp at h1
      omega
    · simp at h1
      omega
theorem Oo_rng {o : Nat} (ho : Oo o) : (3 ≤ o ∧ o + 19 ≤ 42) := by rcases ho with rfl | rfl <;> omega
theorem LawC.sm {h h' : MH} {o : Nat} {L : LD} {l : WL} (hC : LawC h o L) (s : Sm h h' l) (hl : l.all lsf = true) : LawC h' o L := by
  obtain ⟨⟨a1, a2, a3, a4⟩, ⟨b1, b2, b3, b4⟩, c1, c2, c3, c4, ⟨d1, d2, d3, d4, d5⟩, e1, e2, e3⟩ := hC
  have hr := Oo_rng a1
  have I : ∀ {a k : Nat}, (a = 2 ∨ (3 ≤ a ∧ a ≤ 42) ∨ a = 46 ∨ a = 47 ∨ a = 49 ∨ a = 50 ∨ a = 51 ∨ (a = 53 ∧ k = 0)) → gI h' a k = gI h a k := fun q => s.I (wr_lsf hl q)
  have R : ∀ {a k : Nat}, (a = 2 ∨ (3 ≤ a ∧ a ≤ 42) ∨ a = 46 ∨ a = 47 ∨ a = 49 ∨ a = 50 ∨ a = 51 ∨ (a = 53 ∧ k = 0)) → gR h' a k = gR h a k := fun q => s.R (wr_lsf hl q)
  refine ⟨⟨a1, by rw [R (by omega)]; exact a2, by rw [R (by omega)]; exact a3, by rw [R (by omega)]; exact a4⟩, ⟨by rw [I (by omega)]; exact b1, by rw [I (by omega)]; exact b2, by rw [I (by omega)]; exact b3, by rw [I (by omega)]; exact b4⟩, fun t ht => by rw [I (by omega)]; exact c1 t ht, fun t ht => by rw [I (by omega)]; exact c2 t ht, fun c hc => ?_, fun c hc => by rw [I (by omega)]; exact c4 c hc, ⟨by rw [I (by omega)]; exact d1, by rw [I (by omega)]; exact d2, by rw [I (by omega)]; exact d3, by rw [I (by omega)]; exact d4, by rw [I (by omega)]; exact d5⟩, fun k hk => ?_, fun c hc => by rw [I (by omega)]; exact e2 c hc, fun t ht => by rw [I (by omega)]; exact e3 t ht⟩
  · rw [I (by omega), I (by omega), I (by omega), I (by omega)]; exact c3 c hc
  · rw [I (by omega), I (by omega)]; exact e1 k hk
theorem stb_52 : RTB.all (fun q => !wr [(52, none)] q.1 q.2.1) = true := by decide +kernel
theorem CI.memo {h h' : MH} {o : Nat} {L : LD} (hI : CI o L h) (s : Sm h h' [(52, none)]) (hM : Memo h' L) : CI o L h' := ⟨s.St hI.1 stb_52, hI.2.1, hI.2.2.1.sm s rfl, hM⟩
theorem s_Ca_outcome {o : Nat} {L : LD} {h : MH} {μ t k : Nat} {x : Int32} (hI : CI o L h) (ht : t < 3) (hk : k < dN L) (hμ : 5 < μ) : ∃ h', cal 111 [.ref 46, .int (nI t), .int x, .int (nI k)] μ h = some (some (.int (fol L x t k)), h') ∧ Sm h h' [(52, none)] ∧ CI o L h' := by
  obtain ⟨s, hs, e⟩ := set_nI hI.2.1 x ht hk
  obtain ⟨h', e3, s3, m3⟩ := s_Ca_outcomeOf (μ := 5) hI hs (by omega)
  refine ⟨h', ?_, s3, hI.memo s3 m3⟩
  have hC := hI.2.2.1
  have hS := hI.1
  have hN := hI.2.1.1
  have e1 := s_Ca_membersOf (μ := 5) (t := t) hS hC.1.1 hC.1.2.2.1 ht (by omega)
  have e2 := s_Ca_applying (μ := 5) (k := k) hS (by omega) (by omega)
  rw [hC.2.2.2.1 t ht] at e1
  rw [(hC.2.2.2.2.2.2.2.1 k hk).1] at e2
  rw [C_111 46 _ _ _ μ h (K_46 hS) (by decide) hμ]
  unfold fol
  rw [e]
  simp (disch := first | assumption | exact b2i_01 _ | decide | omega | (simp only [kd_sI, ln_sI, hl_sI, gL_sI, gR_sI, kd_sL, ln_sL, hl_sL, gI_sL, gR_sL, kd_sR, ln_sR, hl_sR, gI_sR, gL_sR, kd_cpI, ln_cpI, hl_cpI, gL_cpI, gR_cpI, gI_cpI, gI_sI, gL_sL, gR_sR, St_sI, St_sL, St_cpI, Nat.reduceEqDiff, Nat.reduceAdd, eq_self, false_and, and_false, true_and, and_true, and_self, if_true, if_false, false_or, or_false, true_or, or_true, not_true_eq_false, not_false_eq_true, reduceIte, K_46, F_46_2, F_46_3, F_46_4, F_46_5, F_46_6, F_46_7, hS, e1, e2, e, e3, List.length_nil, List.length_cons] <;> first | done | decide | omega)) only [B_111_0, e_aload_n_0, e_iload_n_2, e_iload_n_1, e_call_2, psh_s, psh_n, Option.bind_some, e_iand, e_iload_n_3, R_111, kd_sI, ln_sI, hl_sI, gL_sI, gR_sI, kd_sL, ln_sL, hl_sL, gI_sL, gR_sL, kd_sR, ln_sR, hl_sR, gI_sR, gL_sR, kd_cpI, ln_cpI, hl_cpI, gL_cpI, gR_cpI, gI_cpI, gI_sI, gL_sL, gR_sR, St_sI, St_sL, St_cpI, Nat.reduceEqDiff, Nat.reduceAdd, eq_self, false_and, and_false, true_and, and_true, and_self, if_true, if_false, false_or, or_false, true_or, or_true, not_true_eq_false, not_false_eq_true, reduceIte, K_46, F_46_2, F_46_3, F_46_4, F_46_5, F_46_6, F_46_7, e1, e2, e, e3, List.length_nil, List.length_cons]
theorem s_Mo_fol {L : LD} {h : MH} {μ t k : Nat} {x : Int32} (hS : St h) (hB : LawB L) (hM : LawM h L) (ht : t < 3) (hk : k < dN L) (hμ : 3 < μ) : cal 269 [.ref 66, .int x, .int (nI t), .int (nI k)] μ h = some (some (.int (fol L x t k)), h) := by
  have hN := hB.1
  rw [s_Mo_followsBy hS hM.1.2.2.1 hN.2.2.1 (fun c hc => by obtain ⟨v, hv, q⟩ := (hB.2.1 c hc).2; rw [(hM.2.2.2.1 c hc).2.1, q]; exact nI_m2 hv) ht (by omega) hμ]
  rw [hM.2.2.1 t ht, hM.2.2.2.2.2.1 k hk, wg_congr (dC L) (fun c hc => ⟨hM.2.2.2.2.2.2 c hc, (hM.2.2.2.1 c hc).2.1⟩)]
  rfl
theorem fol_small {L : LD} (hB : LawB L) (x : Int32) (t k : Nat) : fol L x t k = -1 ∨ fol L x t k = -2 ∨ ∃ v, v ≤ 99 ∧ fol L x t k = nI v := wg_small (fun c hc => (hB.2.1 c hc).2)
