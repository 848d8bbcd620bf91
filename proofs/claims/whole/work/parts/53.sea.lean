/-! what is in earnest: rows by themselves -/
def ud (R : Nat → Nat → Int32) (q : Nat) (f : Nat → Int32) : Nat → Nat → Int32 := fun i => if i = q then f else R i
def stj (f : Nat → Int32) (j : Nat) (v : Int32) : Nat → Int32 := fun k => if k = j then v else f k
theorem ud_s {R : Nat → Nat → Int32} {q : Nat} {f : Nat → Int32} : ud R q f q = f := if_pos rfl
theorem ud_o {R : Nat → Nat → Int32} {q i : Nat} {f : Nat → Int32} (h : ¬ i = q) : ud R q f i = R i := if_neg h
theorem stj_s {f : Nat → Int32} {j : Nat} {v : Int32} : stj f j v j = v := if_pos rfl
theorem stj_o {f : Nat → Int32} {j k : Nat} {v : Int32} (h : ¬ k = j) : stj f j v k = f k := if_neg h
theorem Eq27.rf (f : Nat → Int32) : Eq27 f f := fun _ _ => rfl
theorem Eq27.trans {f g k : Nat → Int32} (a : Eq27 f g) (b : Eq27 g k) : Eq27 f k := fun j hj => (a j hj).trans (b j hj)
theorem Eq27.symm {f g : Nat → Int32} (a : Eq27 f g) : Eq27 g f := fun j hj => (a j hj).symm
theorem Eq27.stj {f g : Nat → Int32} (a : Eq27 f g) {j : Nat} {v w : Int32} (e : v = w) : Eq27 (stj f j v) (stj g j w) := fun k hk => by
  by_cases q : k = j
  · subst q; rw [stj_s, stj_s, e]
  · rw [stj_o q, stj_o q]; exact a k hk
theorem RowOK.congr {L : LD} {f g : Nat → Int32} (h : RowOK L f) (e : Eq27 f g) : RowOK L g := by
  obtain ⟨⟨n, a1, a2⟩, ⟨y, b1, b2⟩, ⟨s, c1, c2⟩, d⟩ := h
  exact ⟨⟨n, a1, by rw [← e 2 (by omega)]; exact a2⟩, ⟨y, b1, by rw [← e 0 (by omega)]; exact b2⟩, ⟨s, c1, by rw [← e 1 (by omega)]; exact c2⟩, fun c h1 h2 => by rw [← e (15 + c) (by omega)]; exact d c h1 h2⟩
def AR (L : LD) (p u r : Nat) (R : Nat → Nat → Int32) (N : Nat → Int32) (W : Nat → Nat → Int32) : Prop := p < 41 ∧ Eq27 (R p) N ∧ RowOK L N ∧ ∃ b, b < 41 ∧ u + r ≤ 40 ∧ p = (b + u) % 41 ∧ (∀ j, j < u → Eq27 (R ((b + j) % 41)) (W j) ∧ RowOK L (W j)) ∧ (∀ j, u ≤ j → j < u + r → Eq27 (R ((b + j + 1) % 41)) (W j) ∧ RowOK L (W j))
theorem AR.act {L : LD} {p u r : Nat} {R : Nat → Nat → Int32} {N : Nat → Int32} {W : Nat → Nat → Int32} (h : AR L p u r R N W) : AR L ((p + 1) % 41) (if u = 40 then 40 else u + 1) 0 (ud R ((p + 1) % 41) (R p)) N (if u = 40 then (fun j => if j = 39 then N else W (j + 1)) else (fun j => if j = u then N else W j)) := by
  obtain ⟨a1, a2, a3, b, b1, b2, b3, b4, b5⟩ := h
  have hp : (p + 1) % 41 < 41 := Nat.mod_lt _ (by omega)
  by_cases c : u = 40
  · subst c
    rw [if_pos rfl, if_pos rfl]
    refine ⟨hp, by rw [ud_s]; exact a2, a3, (b + 1) % 41, Nat.mod_lt _ (by omega), by omega, by omega, fun j hj => ?_, fun j h1 h2 => absurd h2 (by omega)⟩
    rw [ud_o (by omega)]
    by_cases d : j = 39
    · simp only [d, if_true]
      rw [show ((b + 1) % 41 + 39) % 41 = p by omega]
      exact ⟨a2, a3⟩
    · simp only [d, if_false]
      rw [show ((b + 1) % 41 + j) % 41 = (b + (j + 1)) % 41 by omega]
      exact b4 (j + 1) (by omega)
  · rw [if_neg c, if_neg c]
    refine ⟨hp, by rw [ud_s]; exact a2, a3, b, b1, by omega, by omega, fun j hj => ?_, fun j h1 h2 => absurd h2 (by omega)⟩
    rw [ud_o (by omega)]
    by_cases d : j = u
    · simp only [d, if_true]
      rw [← b3]
      exact ⟨a2, a3⟩
    · simp only [d, if_false]
      exact b4 j (by omega)
theorem AR.now {L : LD} {p u r : Nat} {R : Nat → Nat → Int32} {N N' f : Nat → Int32} {W : Nat → Nat → Int32} (h : AR L p u r R N W) (hN : RowOK L N') (hf : Eq27 f N') : AR L p u r (ud R p f) N' W := by
  obtain ⟨a1, a2, a3, b, b1, b2, b3, b4, b5⟩ := h
  refine ⟨a1, by rw [ud_s]; exact hf, hN, b, b1, b2, b3, fun j hj => ?_, fun j h1 h2 => ?_⟩
  · rw [ud_o (by omega)]; exact b4 j hj
  · rw [ud_o (by omega)]; exact b5 j h1 h2
theorem AR.undo {L : LD} {p u r : Nat} {R : Nat → Nat → Int32} {N : Nat → Int32} {W : Nat → Nat → Int32} (h : AR L p u r R N W) (hu : 0 < u) : AR L ((p + 40) % 41) (u - 1) (r + 1) R (W (u - 1)) (fun j => if j = u - 1 then N else W j) := by
  obtain ⟨a1, a2, a3, b, b1, b2, b3, b4, b5⟩ := h
  have e : (p + 40) % 41 = (b + (u - 1)) % 41 := by omega
  refine ⟨Nat.mod_lt _ (by omega), by rw [e]; exact (b4 (u - 1) (by omega)).1, (b4 (u - 1) (by omega)).2, b, b1, by omega, e, fun j hj => ?_, fun j h1 h2 => ?_⟩
  · simp only [show ¬ j = u - 1 by omega, if_false]; exact b4 j (by omega)
  · by_cases d : j = u - 1
    · simp only [d, if_true]
      rw [show (b + (u - 1) + 1) % 41 = p by rw [b3, show b + (u - 1) + 1 = b + u by omega]]
      exact ⟨a2, a3⟩
    · simp only [d, if_false]; exact b5 j (by omega) (by omega)
theorem AR.redo {L : LD} {p u r : Nat} {R : Nat → Nat → Int32} {N : Nat → Int32} {W : Nat → Nat → Int32} (h : AR L p u r R N W) (hr : 0 < r) : AR L ((p + 1) % 41) (u + 1) (r - 1) R (W u) (fun j => if j = u then N else W j) := by
  obtain ⟨a1, a2, a3, b, b1, b2, b3, b4, b5⟩ := h
  have e : (p + 1) % 41 = (b + u + 1) % 41 := by omega
  refine ⟨Nat.mod_lt _ (by omega), by rw [e]; exact (b5 u (by omega) (by omega)).1, (b5 u (by omega) (by omega)).2, b, b1, by omega, by rw [e]; rfl, fun j hj => ?_, fun j h1 h2 => ?_⟩
  · by_cases d : j = u
    · simp only [d, if_true]
      rw [← b3]
      exact ⟨a2, a3⟩
    · simp only [d, if_false]; exact b4 j (by omega)
  · simp only [show ¬ j = u by omega, if_false]; exact b5 j (by omega) (by omega)
theorem AR.forget {L : LD} {p u r : Nat} {R : Nat → Nat → Int32} {N : Nat → Int32} {W : Nat → Nat → Int32} (h : AR L p u r R N W) : AR L p 0 0 R N W := by
  obtain ⟨a1, a2, a3, b, b1, b2, b3, b4, b5⟩ := h
  exact ⟨a1, a2, a3, p, a1, by omega, by omega, fun j hj => absurd hj (by omega), fun j h1 h2 => absurd h2 (by omega)⟩
theorem AR.congr {L : LD} {p u r : Nat} {R R' : Nat → Nat → Int32} {N N' : Nat → Int32} {W W' : Nat → Nat → Int32} (h : AR L p u r R N W) (e1 : ∀ i, i < 41 → Eq27 (R' i) (R i)) (e2 : Eq27 N' N) (e3 : ∀ j, j < u + r → Eq27 (W' j) (W j)) : AR L p u r R' N' W' := by
  obtain ⟨a1, a2, a3, b, b1, b2, b3, b4, b5⟩ := h
  refine ⟨a1, (e1 p a1).trans (a2.trans e2.symm), a3.congr e2.symm, b, b1, b2, b3, fun j hj => ?_, fun j h1 h2 => ?_⟩
  · have := e1 ((b + j) % 41) (Nat.mod_lt _ (by omega))
    exact ⟨this.trans ((b4 j hj).1.trans (e3 j (by omega)).symm), (b4 j hj).2.congr (e3 j (by omega)).symm⟩
  · have := e1 ((b + j + 1) % 41) (Nat.mod_lt _ (by omega))
    exact ⟨this.trans ((b5 j h1 h2).1.trans (e3 j (by omega)).symm), (b5 j h1 h2).2.congr (e3 j (by omega)).symm⟩
theorem AR.of {p : Nat} {L : LD} {h : MH} (hs : SeaR p L h) (hA : Act p L h) : ∃ u r, u + r ≤ 40 ∧ AR L p u r (rowC h) (rowM h) (rowW h) ∧ gI h 53 4 = nI u ∧ gI h 66 64 = nI u ∧ gI h 53 5 = nI r ∧ gI h 66 65 = nI r := by
  obtain ⟨s1, s2, s3, s4⟩ := hs
  obtain ⟨a, b, u, r, b1, b2, b3, c1, c2, c3, c4, d1, d2⟩ := hA
  exact ⟨u, r, b2, ⟨s2, s3, a, b, b1, b2, b3, d1, d2⟩, c1, c2, c3, c4⟩
theorem AR.to {p u r : Nat} {L : LD} {h : MH} (a : AR L p u r (rowC h) (rowM h) (rowW h)) (e0 : gI h 53 2 = nI p) (e1 : gI h 53 4 = nI u) (e2 : gI h 66 64 = nI u) (e3 : gI h 53 5 = nI r) (e4 : gI h 66 65 = nI r) : SeaR p L h ∧ Act p L h := by
  obtain ⟨a1, a2, a3, b, b1, b2, b3, b4, b5⟩ := a
  exact ⟨⟨e0, a1, a2, a3.1, a3.2.1, a3.2.2.1⟩, a3, b, u, r, b1, b2, b3, e1, e2, e3, e4, b4, b5⟩
theorem Box.of {L : LD} {h h' : MH} (hX : Box L h) (e1 : gI h' 53 3 = gI h 53 3) (e2 : ∀ b, b < 3 → gI h' 110 b = gI h 110 b) (e3 : ∀ b, b < 3 → Eq27 (rowC h' (41 + b)) (rowC h (41 + b))) (e4 : ∀ b, b < 3 → rowB h' b = rowB h b) : Box L h' := by
  intro b hb
  rw [e1, e2 b hb, e4 b hb]
  rcases hX b hb with q | ⟨q1, q2, q3, q4⟩
  · exact Or.inl q
  · exact Or.inr ⟨q1, q2, (e3 b hb).trans q3, q4⟩
theorem INV.setS {o p p' : Nat} {L : LD} {h h' : MH} {l : WL} (hI : INV o p L h) (s : Sm h h' l) (w : RTB.all (fun q => !wr l q.1 q.2.1) = true) (d : dj l (RC ++ (RM ++ (RO ++ (RF ++ (RTp ++ (RW ++ (RJ ++ (RI ++ (RV ++ (RL ++ (RH ++ RR))))))))))) = true) (d2 : lo l = true) (n : SeaR p' L h' ∧ Act p' L h') (n2 : Box L h') : INV o p' L h' := by
  obtain ⟨⟨⟨z1, z2, z3, z4⟩, a2, a3⟩, ⟨b1, b2, b3, b4, b5, b6, b7, b8⟩, c1, c2, c3⟩ := hI
  obtain ⟨x1, d⟩ := dj_app d; obtain ⟨x2, d⟩ := dj_app d; obtain ⟨x3, d⟩ := dj_app d; obtain ⟨e2, d⟩ := dj_app d; obtain ⟨e3, d⟩ := dj_app d; obtain ⟨e4, d⟩ := dj_app d; obtain ⟨e5, d⟩ := dj_app d; obtain ⟨e7, d⟩ := dj_app d; obtain ⟨e10, d⟩ := dj_app d; obtain ⟨e8, d⟩ := dj_app d; obtain ⟨e9, d⟩ := dj_app d
  exact ⟨⟨⟨s.St z1 w, z2, z3.fr s.fr x1, z4.fr s.fr x3⟩, a2.fr s.fr x2, n.1⟩, ⟨b1.fr s.fr e3, b2.fr s.fr e2, b3.fr s.fr e4, b4.fr s.fr e5, n.2, n2, b7.fr s.fr e7, b8.fr s.fr e10⟩, c1.sm s e8 d2, c2.sm s e9 d2, c3.sm s d⟩
/-! the class's rows -/
theorem Sm.cpI {h h' : MH} {l : WL} {a sp b dp n : Nat} (s : Sm h h' l) (hw : ∀ k, wr l b k = true) : Sm h (cpI h' a sp b dp n) l := by
  refine ⟨s.1, fun x y q => ?_⟩
  obtain ⟨q1, q2, q3⟩ := s.2 x y q
  refine ⟨?_, q2, q3⟩
  rw [gI_cpI, if_neg, q1]
  rintro rfl
  rw [hw] at q; cases q
theorem rowC_sI {h : MH} {p j i : Nat} {v : Int32} (hj : j < 27) : Eq27 (rowC (sI h 54 (p * 27 + j) v) i) (if i = p then stj (rowC h p) j v else rowC h i) := by
  intro k hk
  show gI (sI h 54 (p * 27 + j) v) 54 (i * 27 + k) = _
  rw [gI_sI]
  by_cases c : i = p
  · rw [if_pos c, c]
    by_cases d : k = j
    · rw [if_pos ⟨rfl, by rw [d]⟩, d, stj_s]
    · rw [if_neg (fun q => by omega), stj_o d]; rfl
  · rw [if_neg c, if_neg (fun q => by omega)]; rfl
theorem rowC_cp {h : MH} {a b i : Nat} : Eq27 (rowC (cpI h 54 (a * 27) 54 (b * 27) 27) i) (if i = b then rowC h a else rowC h i) := by
  intro k hk
  show gI (cpI h 54 (a * 27) 54 (b * 27) 27) 54 (i * 27 + k) = _
  rw [gI_cpI, if_pos rfl]
  unfold va_cpy
  by_cases c : i = b
  · rw [if_pos c, if_pos (by omega), c, show a * 27 + (b * 27 + k - b * 27) = a * 27 + k by omega]; rfl
  · rw [if_neg c, if_neg (by omega)]; rfl
theorem s_Sn_copyRow {h : MH} {a b μ : Nat} (hS : St h) (ha : a < 44) (hb : b < 44) (hμ : 3 < μ) : cal 124 [.ref 53, .int (nI a), .int (nI b)] μ h = some (none, cpI h 54 (a * 27) 54 (b * 27) 27) := by
  have ea : nI a * 27 = nI (a * 27) := by rw [show (27 : Int32) = nI 27 from rfl, mul_nI]
  have eb : nI b * 27 = nI (b * 27) := by rw [show (27 : Int32) = nI 27 from rfl, mul_nI]
  have ta := tc_nI (show a * 27 < 2147483648 by omega)
  have tb := tc_nI (show b * 27 < 2147483648 by omega)
  have na := nI_nneg (show a * 27 < 2147483648 by omega)
  have nb := nI_nneg (show b * 27 < 2147483648 by omega)
  have t27 : (27 : Int32).toNatClampNeg = 27 := by decide
  have n27 : ((27 : Int32) < 0) = False := by decide
  have l1 : a * 27 + 27 ≤ 1188 := by omega
  have l2 : b * 27 + 27 ≤ 1188 := by omega
  rw [C_124 53 _ _ μ _ (K_53 hS) (by decide) hμ]
  simp (disch := first | assumption | exact b2i_01 _ | decide | omega | (simp only [kd_sI, ln_sI, hl_sI, gL_sI, gR_sI, kd_sL, ln_sL, hl_sL, gI_sL, gR_sL, kd_sR, ln_sR, hl_sR, gI_sR, gL_sR, kd_cpI, ln_cpI, hl_cpI, gL_cpI, gR_cpI, gI_cpI, gI_sI, gL_sL, gR_sR, St_sI, St_sL, St_cpI, Nat.reduceEqDiff, Nat.reduceAdd, eq_self, false_and, and_false, true_and, and_true, and_self, if_true, if_false, false_or, or_false, true_or, or_true, not_true_eq_false, not_false_eq_true, reduceIte, K_53, F_53_1, K_54, N_54, hS, ea, eb, ta, tb, na, nb, t27, n27, l1, l2, nI_nneg (show a < 2147483648 by omega), nI_nneg (show b < 2147483648 by omega), (eq_false (by simp (disch := omega) only [nI_lit, nI_add, lt_nI, le_nI, eq_nI] <;> omega) : ((44 : Int32) ≤ nI a) = False), (eq_false (by simp (disch := omega) only [nI_lit, nI_add, lt_nI, le_nI, eq_nI] <;> omega) : ((44 : Int32) ≤ nI b) = False), List.length_nil, List.length_cons, Nat.zero_le] <;> first | done | decide | omega | fail) | fail) only [B_124_0, e_iload_n_1, e_if_lt, e_bipush_44, e_ic_ge, e_iload_n_2, e_aload_n_0, G_801, e_bipush_27, e_imul, e_copy, e_gotow, T_124_41, B_124_41, R_124, kd_sI, ln_sI, hl_sI, gL_sI, gR_sI, kd_sL, ln_sL, hl_sL, gI_sL, gR_sL, kd_sR, ln_sR, hl_sR, gI_sR, gL_sR, kd_cpI, ln_cpI, hl_cpI, gL_cpI, gR_cpI, gI_cpI, gI_sI, gL_sL, gR_sR, St_sI, St_sL, St_cpI, Nat.reduceEqDiff, Nat.reduceAdd, eq_self, false_and, and_false, true_and, and_true, and_self, if_true, if_false, false_or, or_false, true_or, or_true, not_true_eq_false, not_false_eq_true, reduceIte, K_53, F_53_1, K_54, N_54, ea, eb, ta, tb, na, nb, t27, n27, l1, l2, nI_nneg (show a < 2147483648 by omega), nI_nneg (show b < 2147483648 by omega), (eq_false (by simp (disch := omega) only [nI_lit, nI_add, lt_nI, le_nI, eq_nI] <;> omega) : ((44 : Int32) ≤ nI a) = False), (eq_false (by simp (disch := omega) only [nI_lit, nI_add, lt_nI, le_nI, eq_nI] <;> omega) : ((44 : Int32) ≤ nI b) = False), List.length_nil, List.length_cons, Nat.zero_le]
/-- a run of the class that writes rows alone -/
def CR (h h' : MH) (R : Nat → Nat → Int32) : Prop := Sm h h' [(54, none)] ∧ ∀ i, i < 44 → Eq27 (rowC h' i) (R i)
theorem stb_54 : RTB.all (fun q => !wr [(54, none)] q.1 q.2.1) = true := by decide +kernel
theorem CR.write {h h' : MH} {R : Nat → Nat → Int32} {p j : Nat} {v : Int32} (c : CR h h' R) (hp : p < 44) (hj : j < 27) : CR h (sI h' 54 (p * 27 + j) v) (ud R p (stj (R p) j v)) := by
  refine ⟨c.1.sI rfl, fun i hi => (rowC_sI hj).trans ?_⟩
  by_cases d : i = p
  · rw [if_pos d, d, ud_s]; exact (c.2 p hp).stj rfl
  · rw [if_neg d, ud_o d]; exact c.2 i hi
theorem CR.rf (h : MH) : CR h h (rowC h) := ⟨Sm.rf h _, fun i _ => Eq27.rf _⟩
theorem CR.rd {h h' : MH} {R : Nat → Nat → Int32} {p j : Nat} (c : CR h h' R) (hp : p < 44) (hj : j < 27) : gI h' 54 (p * 27 + j) = R p j := c.2 p hp j hj
theorem ud_ud {R : Nat → Nat → Int32} {q : Nat} {f g : Nat → Int32} : ud (ud R q f) q g = ud R q g := by
  funext i
  by_cases c : i = q
  · rw [c, ud_s, ud_s]
  · rw [ud_o c, ud_o c, ud_o c]
/-- a clause comes in -/
theorem s_Sn_letIn {h0 h : MH} {R : Nat → Nat → Int32} {c p μ : Nat} {v : Int32} (hS0 : St h0) (r : CR h0 h R) (hp : gI h0 53 2 = nI p) (hp2 : p < 44) (hc : c < 12) (hμ : 5 < μ) : ∃ h', cal 126 [.ref 53, .int (nI c), .int v] μ h = some (none, h') ∧ CR h0 h' (ud R p (stj (stj (R p) 2 (R p 2 ||| one c)) (3 + c) v)) := by
  have hS : St h := r.1.St hS0 stb_54
  have hp' : gI h 53 2 = nI p := by rw [r.1.I rfl]; exact hp
  have e1 := s_Sn_isRow (h := h) (μ := 5) (j := c) (by omega) (by omega)
  have e2 := s_Sn_inNow (μ := 5) hS hp' hp2 (by omega)
  rw [r.rd hp2 (by omega)] at e2
  have e3 := s_Sn_write (μ := 5) (j := 2) (v := R p 2 ||| one c) hS hp' hp2 (by omega) (by omega)
  rw [← nI_lit] at e3
  have r1 := r.write (v := R p 2 ||| one c) hp2 (show 2 < 27 by omega)
  have hS1 : St (sI h 54 (p * 27 + 2) (R p 2 ||| one c)) := r1.1.St hS0 stb_54
  have hp1 : gI (sI h 54 (p * 27 + 2) (R p 2 ||| one c)) 53 2 = nI p := by rw [r1.1.I rfl]; exact hp
  have e4 := s_Sn_write (μ := 5) (j := 3 + c) (v := v) hS1 hp1 hp2 (by omega) (by omega)
  have r2 := r1.write (v := v) hp2 (show 3 + c < 27 by omega)
  rw [ud_ud, ud_s] at r2
  refine ⟨_, ?_, r2⟩
  have e5 : (3 : Int32) + nI c = nI (3 + c) := by rw [show (3 : Int32) = nI 3 from rfl, nI_add]
  have c1 : decide (c < 12) = true := decide_eq_true hc
  have e10 : ((1 : Int32) = 0) = False := by simp
  unfold one at e3 e4
  unfold one
  rw [C_126 53 _ _ μ _ (K_53 hS) (by decide) hμ]
  simp (disch := first | assumption | exact b2i_01 _ | decide | omega | (simp only [kd_sI, ln_sI, hl_sI, gL_sI, gR_sI, kd_sL, ln_sL, hl_sL, gI_sL, gR_sL, kd_sR, ln_sR, hl_sR, gI_sR, gL_sR, kd_cpI, ln_cpI, hl_cpI, gL_cpI, gR_cpI, gI_cpI, gI_sI, gL_sL, gR_sR, St_sI, St_sL, St_cpI, Nat.reduceEqDiff, Nat.reduceAdd, eq_self, false_and, and_false, true_and, and_true, and_self, if_true, if_false, false_or, or_false, true_or, or_true, not_true_eq_false, not_false_eq_true, reduceIte, K_53, F_53_1, hS, e1, e2, e3, e4, e5, c1, b2i_f, b2i_t, e10, decide_true, decide_false, List.length_nil, List.length_cons, Nat.zero_le] <;> first | done | decide | omega | fail) | fail) only [B_126_0, e_iload_n_1, e_call_1, psh_s, psh_n, Option.bind_some, e_if_eq, e_aload_n_0, e_iconst_2, e_iconst_1, e_ishl, e_ior, e_call_3, e_iconst_3, e_iadd, e_iload_n_2, e_gotow, T_126_28, B_126_28, R_126, kd_sI, ln_sI, hl_sI, gL_sI, gR_sI, kd_sL, ln_sL, hl_sL, gI_sL, gR_sL, kd_sR, ln_sR, hl_sR, gI_sR, gL_sR, kd_cpI, ln_cpI, hl_cpI, gL_cpI, gR_cpI, gI_cpI, gI_sI, gL_sL, gR_sR, St_sI, St_sL, St_cpI, Nat.reduceEqDiff, Nat.reduceAdd, eq_self, false_and, and_false, true_and, and_true, and_self, if_true, if_false, false_or, or_false, true_or, or_true, not_true_eq_false, not_false_eq_true, reduceIte, K_53, F_53_1, e1, e2, e3, e4, e5, c1, b2i_f, b2i_t, e10, decide_true, decide_false, List.length_nil, List.length_cons, Nat.zero_le]
theorem s_Sn_letOut {h0 h : MH} {R : Nat → Nat → Int32} {c p μ : Nat} {v : Int32} (hS0 : St h0) (r : CR h0 h R) (hp : gI h0 53 2 = nI p) (hp2 : p < 44) (hc : c < 12) (hμ : 5 < μ) : ∃ h', cal 129 [.ref 53, .int (nI c), .int v] μ h = some (none, h') ∧ CR h0 h' (ud R p (stj (stj (stj (R p) 2 (R p 2 &&& (one c ^^^ -1))) (3 + c) (-1)) (15 + c) v)) := by
  have hS : St h := r.1.St hS0 stb_54
  have hp' : gI h 53 2 = nI p := by rw [r.1.I rfl]; exact hp
  have e1 := s_Sn_isRow (h := h) (μ := 5) (j := c) (by omega) (by omega)
  have e2 := s_Sn_inNow (μ := 5) hS hp' hp2 (by omega)
  rw [r.rd hp2 (by omega)] at e2
  have e3 := s_Sn_write (μ := 5) (j := 2) (v := R p 2 &&& (one c ^^^ -1)) hS hp' hp2 (by omega) (by omega)
  rw [← nI_lit] at e3
  have r1 := r.write (v := R p 2 &&& (one c ^^^ -1)) hp2 (show 2 < 27 by omega)
  have hS1 : St (sI h 54 (p * 27 + 2) (R p 2 &&& (one c ^^^ -1))) := r1.1.St hS0 stb_54
  have hp1 : gI (sI h 54 (p * 27 + 2) (R p 2 &&& (one c ^^^ -1))) 53 2 = nI p := by rw [r1.1.I rfl]; exact hp
  have e4 := s_Sn_write (μ := 5) (j := 3 + c) (v := -1) hS1 hp1 hp2 (by omega) (by omega)
  have r2 := r1.write (v := -1) hp2 (show 3 + c < 27 by omega)
  rw [ud_ud, ud_s] at r2
  have hS2 : St (sI (sI h 54 (p * 27 + 2) (R p 2 &&& (one c ^^^ -1))) 54 (p * 27 + (3 + c)) (-1)) := r2.1.St hS0 stb_54
  have hp2' : gI (sI (sI h 54 (p * 27 + 2) (R p 2 &&& (one c ^^^ -1))) 54 (p * 27 + (3 + c)) (-1)) 53 2 = nI p := by rw [r2.1.I rfl]; exact hp
  have e6 := s_Sn_write (μ := 5) (j := 15 + c) (v := v) hS2 hp2' hp2 (by omega) (by omega)
  have r3 := r2.write (v := v) hp2 (show 15 + c < 27 by omega)
  rw [ud_ud, ud_s] at r3
  refine ⟨_, ?_, r3⟩
  have e5 : (3 : Int32) + nI c = nI (3 + c) := by rw [show (3 : Int32) = nI 3 from rfl, nI_add]
  have e7 : (15 : Int32) + nI c = nI (15 + c) := by rw [show (15 : Int32) = nI 15 from rfl, nI_add]
  have c1 : decide (c < 12) = true := decide_eq_true hc
  have e10 : ((1 : Int32) = 0) = False := by simp
  unfold one at e3 e4 e6
  unfold one
  rw [C_129 53 _ _ μ _ (K_53 hS) (by decide) hμ]
  simp (disch := first | assumption | exact b2i_01 _ | decide | omega | (simp only [kd_sI, ln_sI, hl_sI, gL_sI, gR_sI, kd_sL, ln_sL, hl_sL, gI_sL, gR_sL, kd_sR, ln_sR, hl_sR, gI_sR, gL_sR, kd_cpI, ln_cpI, hl_cpI, gL_cpI, gR_cpI, gI_cpI, gI_sI, gL_sL, gR_sR, St_sI, St_sL, St_cpI, Nat.reduceEqDiff, Nat.reduceAdd, eq_self, false_and, and_false, true_and, and_true, and_self, if_true, if_false, false_or, or_false, true_or, or_true, not_true_eq_false, not_false_eq_true, reduceIte, K_53, F_53_1, hS, e1, e2, e3, e4, e5, e6, e7, c1, b2i_f, b2i_t, e10, decide_true, decide_false, List.length_nil, List.length_cons, Nat.zero_le] <;> first | done | decide | omega | fail) | fail) only [B_129_0, e_iload_n_1, e_call_1, psh_s, psh_n, Option.bind_some, e_if_eq, e_aload_n_0, e_iconst_2, e_iconst_1, e_ishl, e_iconst_m1, e_ixor, e_iand, e_call_3, e_iconst_3, e_iadd, e_bipush_15, e_iload_n_2, e_gotow, T_129_39, B_129_39, R_129, kd_sI, ln_sI, hl_sI, gL_sI, gR_sI, kd_sL, ln_sL, hl_sL, gI_sL, gR_sL, kd_sR, ln_sR, hl_sR, gI_sR, gL_sR, kd_cpI, ln_cpI, hl_cpI, gL_cpI, gR_cpI, gI_cpI, gI_sI, gL_sL, gR_sR, St_sI, St_sL, St_cpI, Nat.reduceEqDiff, Nat.reduceAdd, eq_self, false_and, and_false, true_and, and_true, and_self, if_true, if_false, false_or, or_false, true_or, or_true, not_true_eq_false, not_false_eq_true, reduceIte, K_53, F_53_1, e1, e2, e3, e4, e5, e6, e7, c1, b2i_f, b2i_t, e10, decide_true, decide_false, List.length_nil, List.length_cons, Nat.zero_le]
/-- an act begins: the row behind the present becomes the present -/
theorem s_Sn_startAct {h : MH} {p u μ : Nat} (hS : St h) (hp : gI h 53 2 = nI p) (hp2 : p < 41) (hu : gI h 53 4 = nI u) (hu2 : u ≤ 40) (hμ : 4 < μ) : ∃ h', cal 123 [.ref 53] μ h = some (none, h') ∧ Sm h h' [(53, some 2), (53, some 4), (53, some 5), (54, none)] ∧ gI h' 53 2 = nI ((p + 1) % 41) ∧ gI h' 53 4 = nI (if u = 40 then 40 else u + 1) ∧ gI h' 53 5 = nI 0 ∧ ∀ i, i < 44 → Eq27 (rowC h' i) (ud (rowC h) ((p + 1) % 41) (rowC h p) i) := by
  have hq : (p + 1) % 41 < 41 := Nat.mod_lt _ (by omega)
  have e1 := s_Sn_copyRow (μ := 4) (a := p) (b := (p + 1) % 41) hS (by omega) (by omega) (by omega)
  obtain ⟨h1, eh1⟩ : ∃ h1, h1 = cpI h 54 (p * 27) 54 ((p + 1) % 41 * 27) 27 := ⟨_, rfl⟩
  rw [← eh1] at e1
  have s1 : Sm h h1 [(54, none)] := by rw [eh1]; exact (Sm.rf h _).cpI (fun _ => rfl)
  have hS1 : St h1 := s1.St hS stb_54
  have hu1 : gI h1 53 4 = nI u := by rw [s1.I rfl]; exact hu
  have e2 := s_JM_min (h := sI h1 53 2 (nI ((p + 1) % 41))) (μ := 4) (x := nI (u + 1)) (y := 40) (by omega)
  have m : (if (40 : Int32) < nI (u + 1) then (40 : Int32) else nI (u + 1)) = nI (if u = 40 then 40 else u + 1) := by
    have lt : (40 : Int32) < nI (u + 1) ↔ 40 < u + 1 := by
      rw [show (40 : Int32) = nI 40 from rfl, lt_nI (by omega) (by omega)]
    by_cases c : u = 40
    · rw [if_pos (lt.mpr (by omega)), if_pos c]; rfl
    · rw [if_neg (fun q => by have := lt.mp q; omega), if_neg c]
  rw [m] at e2
  have r1 : nI (p + 1) - nI (p + 1) / 41 * 41 = nI ((p + 1) % 41) := pk_rem (a := p + 1) (d := 41) (by omega) (by omega) (by omega)
  have n41 : ¬ ((41 : Int32) = 0) := by decide
  refine ⟨sI (sI (sI h1 53 2 (nI ((p + 1) % 41))) 53 4 (nI (if u = 40 then 40 else u + 1))) 53 5 0, ?_, (((s1.mono (by decide)).sI rfl).sI rfl).sI rfl, ?_, ?_, ?_, fun i hi => ?_⟩
  · rw [C_123 53  μ _ (K_53 hS) (by decide) hμ]
    simp (disch := first | assumption | exact b2i_01 _ | decide | omega | (simp only [kd_sI, ln_sI, hl_sI, gL_sI, gR_sI, kd_sL, ln_sL, hl_sL, gI_sL, gR_sL, kd_sR, ln_sR, hl_sR, gI_sR, gL_sR, kd_cpI, ln_cpI, hl_cpI, gL_cpI, gR_cpI, gI_cpI, gI_sI, gL_sL, gR_sR, St_sI, St_sL, St_cpI, Nat.reduceEqDiff, Nat.reduceAdd, eq_self, false_and, and_false, true_and, and_true, and_self, if_true, if_false, false_or, or_false, true_or, or_true, not_true_eq_false, not_false_eq_true, reduceIte, K_53, F_53_1, hS, hS1, hp, hu1, nI_1, r1, n41, e1, e2, List.length_nil, List.length_cons, Nat.zero_le] <;> first | done | decide | omega | fail) | fail) only [B_123_0, e_aload_n_0, G_802, e_iconst_1, e_iadd, e_bipush_41, e_irem, e_istore_n_1, clr_i, clr_l, clr_a, clr_n, e_iload_n_1, e_call_3, psh_s, psh_n, Option.bind_some, P_802, G_804, e_bipush_40, e_call_2, P_804, e_iconst_0, P_805, R_123, kd_sI, ln_sI, hl_sI, gL_sI, gR_sI, kd_sL, ln_sL, hl_sL, gI_sL, gR_sL, kd_sR, ln_sR, hl_sR, gI_sR, gL_sR, kd_cpI, ln_cpI, hl_cpI, gL_cpI, gR_cpI, gI_cpI, gI_sI, gL_sL, gR_sR, St_sI, St_sL, St_cpI, Nat.reduceEqDiff, Nat.reduceAdd, eq_self, false_and, and_false, true_and, and_true, and_self, if_true, if_false, false_or, or_false, true_or, or_true, not_true_eq_false, not_false_eq_true, reduceIte, K_53, F_53_1, hS1, hp, hu1, nI_1, r1, n41, e1, e2, List.length_nil, List.length_cons, Nat.zero_le]
  · simp only [kd_sI, ln_sI, hl_sI, gL_sI, gR_sI, kd_sL, ln_sL, hl_sL, gI_sL, gR_sL, kd_sR, ln_sR, hl_sR, gI_sR, gL_sR, kd_cpI, ln_cpI, hl_cpI, gL_cpI, gR_cpI, gI_cpI, gI_sI, gL_sL, gR_sR, St_sI, St_sL, St_cpI, Nat.reduceEqDiff, Nat.reduceAdd, eq_self, false_and, and_false, true_and, and_true, and_self, if_true, if_false, false_or, or_false, true_or, or_true, not_true_eq_false, not_false_eq_true, reduceIte]
  · simp only [kd_sI, ln_sI, hl_sI, gL_sI, gR_sI, kd_sL, ln_sL, hl_sL, gI_sL, gR_sL, kd_sR, ln_sR, hl_sR, gI_sR, gL_sR, kd_cpI, ln_cpI, hl_cpI, gL_cpI, gR_cpI, gI_cpI, gI_sI, gL_sL, gR_sR, St_sI, St_sL, St_cpI, Nat.reduceEqDiff, Nat.reduceAdd, eq_self, false_and, and_false, true_and, and_true, and_self, if_true, if_false, false_or, or_false, true_or, or_true, not_true_eq_false, not_false_eq_true, reduceIte]
  · simp only [kd_sI, ln_sI, hl_sI, gL_sI, gR_sI, kd_sL, ln_sL, hl_sL, gI_sL, gR_sL, kd_sR, ln_sR, hl_sR, gI_sR, gL_sR, kd_cpI, ln_cpI, hl_cpI, gL_cpI, gR_cpI, gI_cpI, gI_sI, gL_sL, gR_sR, St_sI, St_sL, St_cpI, Nat.reduceEqDiff, Nat.reduceAdd, eq_self, false_and, and_false, true_and, and_true, and_self, if_true, if_false, false_or, or_false, true_or, or_true, not_true_eq_false, not_false_eq_true, reduceIte]; rfl
  · have : rowC (sI (sI (sI h1 53 2 (nI ((p + 1) % 41))) 53 4 (nI (if u = 40 then 40 else u + 1))) 53 5 0) i = rowC h1 i := by
      funext k
      show gI _ 54 _ = gI h1 54 _
      simp only [kd_sI, ln_sI, hl_sI, gL_sI, gR_sI, kd_sL, ln_sL, hl_sL, gI_sL, gR_sL, kd_sR, ln_sR, hl_sR, gI_sR, gL_sR, kd_cpI, ln_cpI, hl_cpI, gL_cpI, gR_cpI, gI_cpI, gI_sI, gL_sL, gR_sR, St_sI, St_sL, St_cpI, Nat.reduceEqDiff, Nat.reduceAdd, eq_self, false_and, and_false, true_and, and_true, and_self, if_true, if_false, false_or, or_false, true_or, or_true, not_true_eq_false, not_false_eq_true, reduceIte]
    rw [this, eh1]
    exact rowC_cp
