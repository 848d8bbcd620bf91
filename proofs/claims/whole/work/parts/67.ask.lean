/-! a row filled -/
def flS (h : MH) (b n : Nat) (v : Int32) : MH := (h.1, fun x y => if x = b ∧ y < n then v else h.2.1 x y, h.2.2.1, h.2.2.2)
theorem gI_flS (h : MH) (b n : Nat) (v : Int32) (x y : Nat) : gI (flS h b n v) x y = if x = b ∧ y < n then v else gI h x y := rfl
theorem flS_0 (h : MH) (b : Nat) (v : Int32) : flS h b 0 v = h := by
  unfold flS
  have : (fun x y => if x = b ∧ y < 0 then v else h.2.1 x y) = h.2.1 := by
    funext x y
    rw [if_neg (by omega)]
  rw [this]
theorem flS_s (h : MH) (b n : Nat) (v : Int32) : sI (flS h b n v) b n v = flS h b (n + 1) v := by
  unfold flS sI
  have : (fun x y => if x = b ∧ y = n then v else if x = b ∧ y < n then v else h.2.1 x y) = (fun x y => if x = b ∧ y < n + 1 then v else h.2.1 x y) := by
    funext x y
    by_cases c1 : x = b ∧ y = n
    · rw [if_pos c1, if_pos (by omega)]
    · rw [if_neg c1]
      by_cases c2 : x = b ∧ y < n
      · rw [if_pos c2, if_pos (by omega)]
      · rw [if_neg c2, if_neg (by omega)]
  show (h.1, (fun x y => if x = b ∧ y = n then v else if x = b ∧ y < n then v else h.2.1 x y), h.2.2.1, h.2.2.2) = _
  rw [this]
theorem C29i (x0 : Nat) (x1 : Int32) (μ : Nat) (h : MH) (hμ : 3 < μ) : cal 29 [.ref x0, .int x1] μ h = rn 29 3 B_29_0 [some (.ref x0), some (.int x1), none, none] [] h := cal_of ⟨hμ, rfl, rfl, by decide, Nat.le_of_ble_eq_true rfl⟩
theorem lp_JA_fillS {h : MH} {b n : Nat} {v w : Int32} (hk : kd h b = 22) (hn : ln h b = n) (hn2 : n ≤ 65536) (hb : 2 ≤ b) (hv : v.toInt16.toInt32 = w) : ∀ m i, i + m = n → rn 29 3 B_29_5 [some (.ref b), some (.int v), some (.int (nI i)), some (.int (nI n))] [] (flS h b i w) = some (none, flS h b n w) := by
  intro m
  induction m with
  | zero =>
    intro i hi
    obtain rfl : i = n := by omega
    rw [B_29_5]
    simp (disch := first | assumption | decide | omega) only [e_iload_n_2, e_iload_n_3, e_ic_ge, (eq_true (by simp (disch := omega) only [nI_lit, nI_add, lt_nI, le_nI, eq_nI] <;> omega) : (nI i ≤ nI i) = True), if_true, T_29_20, B_29_20, R_29]
  | succ m ih =>
    intro i hi
    have g := ih (i + 1) (by omega)
    rw [← flS_s] at g
    have k1 : kd (flS h b i w) b = 22 := hk
    have n1 : inBd (nI i) (ln (flS h b i w) b) = true := by
      show inBd (nI i) (ln h b) = true
      rw [hn]; exact inBd_nI (by omega) (by omega)
    have tn := tc_nI (show i < 2147483648 by omega)
    rw [B_29_5]
    simp (disch := first | assumption | decide | omega) only [e_iload_n_2, e_iload_n_3, e_ic_ge, (eq_false (by simp (disch := omega) only [nI_lit, nI_add, lt_nI, le_nI, eq_nI] <;> omega) : (nI n ≤ nI i) = False), if_false, e_aload_n_0, e_iload_n_1, e_sastore, tn, hv, e_iinc_2_1, clr_i, nI_1, e_goto, T_29_5, g]
theorem s_JA_fillS {h : MH} {b n μ : Nat} {v w : Int32} (hk : kd h b = 22) (hn : ln h b = n) (hn2 : n ≤ 65536) (hb : 2 ≤ b) (hv : v.toInt16.toInt32 = w) (hμ : 3 < μ) : cal 29 [.ref b, .int v] μ h = some (none, flS h b n w) := by
  have g := lp_JA_fillS hk hn hn2 hb hv n 0 (by omega)
  rw [flS_0] at g
  have k1 : 20 ≤ kd h b ∧ kd h b ≤ 24 := by omega
  rw [C29i _ _ μ h hμ, B_29_0]
  simp (disch := first | assumption | decide | omega) only [e_iconst_0, e_istore_n_2, e_aload_n_0, e_alen, e_istore_n_3, clr_i, clr_a, clr_n, e_gotow, T_29_5, hn]
  exact g
theorem lp_JA_fillI {h : MH} {b n : Nat} {v : Int32} (hk : kd h b = 20) (hn : ln h b = n) (hn2 : n ≤ 65536) (hb : 2 ≤ b) : ∀ m i, i + m = n → rn 41 3 B_41_5 [some (.ref b), some (.int v), some (.int (nI i)), some (.int (nI n))] [] (flS h b i v) = some (none, flS h b n v) := by
  intro m
  induction m with
  | zero =>
    intro i hi
    obtain rfl : i = n := by omega
    rw [B_41_5]
    simp (disch := first | assumption | decide | omega) only [e_iload_n_2, e_iload_n_3, e_ic_ge, (eq_true (by simp (disch := omega) only [nI_lit, nI_add, lt_nI, le_nI, eq_nI] <;> omega) : (nI i ≤ nI i) = True), if_true, T_41_20, B_41_20, R_41]
  | succ m ih =>
    intro i hi
    have g := ih (i + 1) (by omega)
    rw [← flS_s] at g
    have k1 : kd (flS h b i v) b = 20 := hk
    have n1 : inBd (nI i) (ln (flS h b i v) b) = true := by
      show inBd (nI i) (ln h b) = true
      rw [hn]; exact inBd_nI (by omega) (by omega)
    have tn := tc_nI (show i < 2147483648 by omega)
    rw [B_41_5]
    simp (disch := first | assumption | decide | omega) only [e_iload_n_2, e_iload_n_3, e_ic_ge, (eq_false (by simp (disch := omega) only [nI_lit, nI_add, lt_nI, le_nI, eq_nI] <;> omega) : (nI n ≤ nI i) = False), if_false, e_aload_n_0, e_iload_n_1, e_iastore, tn, e_iinc_2_1, clr_i, nI_1, e_goto, T_41_5, g]
theorem s_JA_fillI {h : MH} {b n μ : Nat} {v : Int32} (hk : kd h b = 20) (hn : ln h b = n) (hn2 : n ≤ 65536) (hb : 2 ≤ b) (hμ : 3 < μ) : cal 41 [.ref b, .int v] μ h = some (none, flS h b n v) := by
  have g := lp_JA_fillI (v := v) hk hn hn2 hb n 0 (by omega)
  rw [flS_0] at g
  have k1 : 20 ≤ kd h b ∧ kd h b ≤ 24 := by omega
  rw [C_41 _ _ μ h hμ, B_41_0]
  simp (disch := first | assumption | decide | omega) only [e_iconst_0, e_istore_n_2, e_aload_n_0, e_alen, e_istore_n_3, clr_i, clr_a, clr_n, e_gotow, T_41_5, hn]
  exact g
theorem SA.flS {o p a b n : Nat} {L : LD} {h h' : MH} {v : Int32} (s : SA o p L a h h') (ha : 112 ≤ a) (h1 : a ≤ b) (h2 : b ≤ a + 3) : SA o p L a h (flS h' b n v) := ⟨s.1, fun y j c => ⟨(s.2.1 y j c).1, (s.2.1 y j c).2.1, fun z => by rw [gI_flS, if_neg (by omega)]; exact (s.2.1 y j c).2.2 z⟩, s.2.2.fr (l := []) s.2.2.1.1 (fun y j hy _ => ⟨by rw [gI_flS, if_neg (by omega)], rfl, rfl⟩) rfl⟩
/-! tallies -/
def tst (r : Nat → Nat) (q : (Nat → Nat) × Nat) (s : Nat) : (Nat → Nat) × Nat := (fun v => if v = r s then q.1 v + 1 else q.1 v, if q.2 < q.1 (r s) + 1 then q.1 (r s) + 1 else q.2)
theorem tst_mono {r : Nat → Nat} : ∀ (l : List Nat) q, q.2 ≤ (l.foldl (tst r) q).2
  | [], q => Nat.le_refl _
  | s :: l, q => by
    rw [List.foldl_cons]
    have := tst_mono (r := r) l (tst r q s)
    have h2 : q.2 ≤ (tst r q s).2 := by
      unfold tst
      dsimp only
      split <;> omega
    omega
theorem tst_le {r : Nat → Nat} : ∀ (l : List Nat) q n, (∀ v, q.1 v ≤ n) → q.2 ≤ n → (l.foldl (tst r) q).2 ≤ n + l.length
  | [], q, n, _, h => h
  | s :: l, q, n, h1, h2 => by
    rw [List.foldl_cons, List.length_cons]
    have := tst_le (r := r) l (tst r q s) (n + 1) (fun v => by
      have := h1 v
      unfold tst
      dsimp only
      split <;> omega) (by
      have := h1 (r s)
      unfold tst
      dsimp only
      split <;> omega)
    omega
/-- what follows by a set of clauses, two more -/
def row (L : LD) (q s : Nat) : Nat := (wg (dAbv L) (dSay L) (nI (s &&& q)) (dC L) - (-2)).toNatClampNeg
theorem row_s {L : LD} (hB : LawB L) (q s : Nat) : row L q s < 102 ∧ wg (dAbv L) (dSay L) (nI (s &&& q)) (dC L) - (-2) = nI (row L q s) := by
  unfold row
  rcases wg_small (ab := dAbv L) (sy := dSay L) (s := nI (s &&& q)) (n := dC L) (fun c hc => (hB.2.1 c hc).2) with e | e | ⟨v, hv, e⟩
  · rw [e]; exact ⟨by decide, by decide⟩
  · rw [e]; exact ⟨by decide, by decide⟩
  · rw [e]
    have z : nI v - (-2) = nI (v + 2) := by
      have : ∀ j : Fin 100, nI j.val - (-2) = nI (j.val + 2) := by decide +kernel
      exact this ⟨v, by omega⟩
    rw [z, tc_nI (by omega)]
    exact ⟨by omega, rfl⟩
theorem andN (s q : Nat) (hs : s < 4096) (hq : q < 4096) : nI s &&& nI q = nI (s &&& q) := by
  rw [and_nI _ q (by omega), show (nI s).toBitVec.toNat = s from pk_tn (by omega)]
theorem and_ltN {s q c : Nat} (hs : s < 2 ^ c) : s &&& q < 2 ^ c := Nat.lt_of_le_of_lt Nat.and_le_left hs
theorem q_outOf {o p : Nat} {L : LD} {h : MH} (hI : QI o p L h) {s : Nat} (hs : s < 2 ^ dC L) {μ : Nat} (hμ : 4 < μ) : ∃ h', cal 113 [.ref 46, .int (nI s)] μ h = some (some (.int (wg (dAbv L) (dSay L) (nI s) (dC L))), h') ∧ Mm o p L h h' := by
  obtain ⟨h', e, s1, m1⟩ := s_Ca_outcomeOf hI.1 hs hμ
  exact ⟨h', e, s1, hI.memo s1 (hI.1.memo s1 m1)⟩
/-- only the tally is written, and the row of outcomes -/
def SB (a : Nat) (h h' : MH) : Prop := ∀ x k, ¬ x = 52 → ¬ x = a + 3 → gI h' x k = gI h x k
theorem SB.trans {a : Nat} {h h1 h2 : MH} (x : SB a h h1) (y : SB a h1 h2) : SB a h h2 := fun q k c d => (y q k c d).trans (x q k c d)
theorem Mm.sb {o p a : Nat} {L : LD} {h h' : MH} (m : Mm o p L h h') : SB a h h' := fun x k c _ => m.1.I (wr_52 c)
theorem SB.sel {a : Nat} {l : List Nat} {h h' : MH} (s : SB a h h') (ha : 112 ≤ a) (hL : SeL a l h) : SeL a l h' := ⟨by rw [s a 3 (by omega) (by omega)]; exact hL.1, fun i x e => by rw [s (a + 1) i (by omega) (by omega)]; exact hL.2 i x e⟩
theorem lp_Se_mostLeft {o p a q en : Nat} {L : LD} {l : List Nat} (hq : q < 2 ^ dC L) (hl : l.length ≤ 4096) (hlt : ∀ x ∈ l, x < 2 ^ dC L) (hen : en ≤ 4097) : ∀ m i h T M (l6 : Option Value), i + m = l.length → QI o p L h → SeO a h → SeL a l h → (∀ v, v < 102 → gI h (a + 3) v = nI (T v)) → (∀ v, T v ≤ i) → M ≤ i → ∃ h' M', rn 198 5 B_198_14 [some (.ref a), some (.ref 46), some (.int (nI q)), some (.int (nI en)), some (.int (nI M)), some (.int (nI i)), l6] [] h = some (some (.int (nI M')), h') ∧ SA o p L a h h' ∧ SB a h h' ∧ M' ≤ 4096 ∧ (M' = ((l.drop i).foldl (tst (row L q)) (T, M)).2 ∨ (en ≤ M' ∧ en ≤ ((l.drop i).foldl (tst (row L q)) (T, M)).2)) := by
  intro m
  induction m with
  | zero =>
    intro i h T M l6 hi hI hO hL hT hT2 hM
    have hS := hI.1.1
    obtain ⟨q1, q2, q3, -⟩ := hO
    have ha2 : 2 ≤ a := by omega
    have f := hL.1
    have hi' : i = l.length := by omega
    refine ⟨h, M, ?_, SA.rf hI, fun _ _ _ _ => rfl, by omega, Or.inl (by rw [hi', List.drop_length]; rfl)⟩
    have l1 : (nI l.length ≤ nI i) = True := by rw [le_nI (by omega) (by omega)]; exact eq_true (by omega)
    rw [B_198_14]
    simp (disch := first | assumption | exact b2i_01 _ | decide | omega | (simp only [kd_sI, ln_sI, hl_sI, gL_sI, gR_sI, kd_sL, ln_sL, hl_sL, gI_sL, gR_sL, kd_sR, ln_sR, hl_sR, gI_sR, gL_sR, kd_cpI, ln_cpI, hl_cpI, gL_cpI, gR_cpI, gI_cpI, gI_sI, gL_sL, gR_sR, St_sI, St_sL, St_cpI, Nat.reduceEqDiff, Nat.reduceAdd, eq_self, false_and, and_false, true_and, and_true, and_self, if_true, if_false, false_or, or_false, true_or, or_true, not_true_eq_false, not_false_eq_true, reduceIte, K_46, F_46_2, F_46_3, F_46_4, F_46_5, F_46_6, F_46_7, hS, q3, ha2, f, l1] <;> first | done | decide | omega | fail) | fail) only [B_198_0, e_aload_n_0, G_702, e_iconst_0, e_call_2, psh_s, psh_n, Option.bind_some, e_istore_4, clr_i, clr_l, clr_a, clr_n, e_istore_5, e_gotow, T_198_14, e_iload_5, G_703, e_ic_ge, e_sipush_4096, e_iload_4, e_iload_n_3, e_aload_n_1, G_700, e_saload, e_iload_n_2, e_iand, e_bipush_m2, e_isub, e_istore_6, e_iload_6, e_if_lt, e_bipush_102, e_dup2, e_iaload, e_iconst_1, e_iadd, e_iastore, T_198_92, B_198_92, e_iinc_5_1, e_goto, T_198_98, B_198_98, R_198, kd_sI, ln_sI, hl_sI, gL_sI, gR_sI, kd_sL, ln_sL, hl_sL, gI_sL, gR_sL, kd_sR, ln_sR, hl_sR, gI_sR, gL_sR, kd_cpI, ln_cpI, hl_cpI, gL_cpI, gR_cpI, gI_cpI, gI_sI, gL_sL, gR_sR, St_sI, St_sL, St_cpI, Nat.reduceEqDiff, Nat.reduceAdd, eq_self, false_and, and_false, true_and, and_true, and_self, if_true, if_false, false_or, or_false, true_or, or_true, not_true_eq_false, not_false_eq_true, reduceIte, K_46, F_46_2, F_46_3, F_46_4, F_46_5, F_46_6, F_46_7, q3, ha2, f, l1]
  | succ m ih =>
    intro i h T M l6 hi hI hO hL hT hT2 hM
    have hO0 := hO
    have hS := hI.1.1
    have hB := hI.1.2.1
    have h12 := pw12 hB.1.2.2.1
    obtain ⟨q1, q2, q3, ⟨b1, b2, b3⟩, -, d1, d2, d3⟩ := hO
    have ha2 : 2 ≤ a := by omega
    have ha3 : 2 ≤ a + 3 := by omega
    have f := hL.1
    have l1 : (nI l.length ≤ nI i) = False := by rw [le_nI (by omega) (by omega)]; exact eq_false (by omega)
    have l2 : ((4096 : Int32) ≤ nI i) = False := by rw [show (4096 : Int32) = nI 4096 from rfl, le_nI (by omega) (by omega)]; exact eq_false (by omega)
    by_cases c : en ≤ M
    · have l3 : (nI en ≤ nI M) = True := by rw [le_nI (by omega) (by omega)]; exact eq_true c
      refine ⟨h, M, ?_, SA.rf hI, fun _ _ _ _ => rfl, by omega, Or.inr ⟨c, Nat.le_trans c (tst_mono (r := row L q) (l.drop i) (T, M))⟩⟩
      rw [B_198_14]
      simp (disch := first | assumption | exact b2i_01 _ | decide | omega | (simp only [kd_sI, ln_sI, hl_sI, gL_sI, gR_sI, kd_sL, ln_sL, hl_sL, gI_sL, gR_sL, kd_sR, ln_sR, hl_sR, gI_sR, gL_sR, kd_cpI, ln_cpI, hl_cpI, gL_cpI, gR_cpI, gI_cpI, gI_sI, gL_sL, gR_sR, St_sI, St_sL, St_cpI, Nat.reduceEqDiff, Nat.reduceAdd, eq_self, false_and, and_false, true_and, and_true, and_self, if_true, if_false, false_or, or_false, true_or, or_true, not_true_eq_false, not_false_eq_true, reduceIte, K_46, F_46_2, F_46_3, F_46_4, F_46_5, F_46_6, F_46_7, hS, q3, ha2, f, l1, l2, l3] <;> first | done | decide | omega | fail) | fail) only [B_198_0, e_aload_n_0, G_702, e_iconst_0, e_call_2, psh_s, psh_n, Option.bind_some, e_istore_4, clr_i, clr_l, clr_a, clr_n, e_istore_5, e_gotow, T_198_14, e_iload_5, G_703, e_ic_ge, e_sipush_4096, e_iload_4, e_iload_n_3, e_aload_n_1, G_700, e_saload, e_iload_n_2, e_iand, e_bipush_m2, e_isub, e_istore_6, e_iload_6, e_if_lt, e_bipush_102, e_dup2, e_iaload, e_iconst_1, e_iadd, e_iastore, T_198_92, B_198_92, e_iinc_5_1, e_goto, T_198_98, B_198_98, R_198, kd_sI, ln_sI, hl_sI, gL_sI, gR_sI, kd_sL, ln_sL, hl_sL, gI_sL, gR_sL, kd_sR, ln_sR, hl_sR, gI_sR, gL_sR, kd_cpI, ln_cpI, hl_cpI, gL_cpI, gR_cpI, gI_cpI, gI_sI, gL_sL, gR_sR, St_sI, St_sL, St_cpI, Nat.reduceEqDiff, Nat.reduceAdd, eq_self, false_and, and_false, true_and, and_true, and_self, if_true, if_false, false_or, or_false, true_or, or_true, not_true_eq_false, not_false_eq_true, reduceIte, K_46, F_46_2, F_46_3, F_46_4, F_46_5, F_46_6, F_46_7, q3, ha2, f, l1, l2, l3]
    · have l3 : (nI en ≤ nI M) = False := by rw [le_nI (by omega) (by omega)]; exact eq_false c
      obtain ⟨s, e1, e2⟩ := drop_get (l := l) (i := i) (by omega)
      have hs : s < 2 ^ dC L := hlt s (List.mem_of_getElem? e1)
      have v := hL.2 i s e1
      have bn : inBd (nI i) 4096 = true := inBd_nI (by omega) (by omega)
      have tn := tc_nI (show i < 2147483648 by omega)
      have an := andN s q (by omega) (by omega)
      obtain ⟨h1, e3, m1⟩ := q_outOf hI (and_ltN (q := q) hs) (μ := 5) (by omega)
      have hS1 := m1.2.1.1
      obtain ⟨r1, r2⟩ := row_s hB q s
      obtain ⟨rr, er⟩ : ∃ rr, rr = row L q s := ⟨_, rfl⟩
      rw [← er] at r1 r2
      have sa1 : SA o p L a h h1 := SA.mm m1
      have sb1 : SB a h h1 := m1.sb
      have k3 : kd h1 (a + 3) = 20 := by rw [sa1.kde]; exact d2
      have n3 : ln h1 (a + 3) = 102 := by rw [sa1.lne]; exact d3
      have g3 : gR h1 a 2 = .ref (a + 3) := by rw [(sa1.2.1 a 2 (by omega)).2.1]; exact d1
      have k4 : kd h1 a = 7 := by rw [sa1.kde]; exact q3
      have tr : gI h1 (a + 3) rr = nI (T rr) := by rw [m1.1.I (wr_52 (by omega))]; exact hT rr r1
      have br : inBd (nI rr) 102 = true := inBd_nI (by omega) (by omega)
      have tt := tc_nI (show rr < 2147483648 by omega)
      have hTr := hT2 rr
      obtain ⟨T', eT⟩ : ∃ T', T' = (tst (row L q) (T, M) s).1 := ⟨_, rfl⟩
      obtain ⟨M', eM⟩ : ∃ M', M' = (tst (row L q) (T, M) s).2 := ⟨_, rfl⟩
      have eT' : ∀ v, T' v = if v = rr then T v + 1 else T v := fun v => by rw [eT, er]; rfl
      have eM' : M' = if M < T rr + 1 then T rr + 1 else M := by rw [eM, er]; rfl
      have sa2 : SA o p L a h (sI h1 (a + 3) rr (nI (T rr + 1))) := sa1.sI q2 (by omega) (by omega)
      have sb2 : SB a h (sI h1 (a + 3) rr (nI (T rr + 1))) := fun x k c1 c2 => by rw [gI_sI, if_neg (by omega)]; exact sb1 x k c1 c2
      obtain ⟨h2, M2, g, sa3, sb3, hM2, hM3⟩ := ih (i + 1) (sI h1 (a + 3) rr (nI (T rr + 1))) T' M' (some (.int (nI rr))) (by omega) sa2.2.2 (sa2.seo hO0) (sb2.sel q2 hL) (fun v hv => by
        rw [gI_sI, eT']
        by_cases c1 : v = rr
        · rw [if_pos ⟨rfl, c1⟩, if_pos c1, c1]
        · rw [if_neg (fun z => c1 z.2), if_neg c1, m1.1.I (wr_52 (by omega))]; exact hT v hv) (fun v => by
        rw [eT']
        have := hT2 v
        split <;> omega) (by rw [eM']; split <;> omega)
      refine ⟨h2, M2, ?_, sa2.trans sa3, sb2.trans sb3, hM2, ?_⟩
      · have mx := s_JM_max (h := sI h1 (a + 3) rr (nI (T rr + 1))) (μ := 5) (x := nI M) (y := nI (T rr + 1)) (by omega)
        have emx : (if nI M < nI (T rr + 1) then nI (T rr + 1) else nI M) = nI M' := by
          rw [eM']
          by_cases c1 : M < T rr + 1
          · rw [if_pos (by rw [lt_nI (by omega) (by omega)]; exact c1), if_pos c1]
          · rw [if_neg (by rw [lt_nI (by omega) (by omega)]; exact c1), if_neg c1]
        rw [emx] at mx
        have z1 := nI_nneg (show rr < 2147483648 by omega)
        have z2 : ((102 : Int32) ≤ nI rr) = False := by rw [show (102 : Int32) = nI 102 from rfl, le_nI (by omega) (by omega)]; exact eq_false (by omega)
        rw [B_198_14]
        simp (disch := first | assumption | exact b2i_01 _ | decide | omega | (simp only [kd_sI, ln_sI, hl_sI, gL_sI, gR_sI, kd_sL, ln_sL, hl_sL, gI_sL, gR_sL, kd_sR, ln_sR, hl_sR, gI_sR, gL_sR, kd_cpI, ln_cpI, hl_cpI, gL_cpI, gR_cpI, gI_cpI, gI_sI, gL_sL, gR_sR, St_sI, St_sL, St_cpI, Nat.reduceEqDiff, Nat.reduceAdd, eq_self, false_and, and_false, true_and, and_true, and_self, if_true, if_false, false_or, or_false, true_or, or_true, not_true_eq_false, not_false_eq_true, reduceIte, K_46, F_46_2, F_46_3, F_46_4, F_46_5, F_46_6, F_46_7, hS, hS1, q3, ha2, ha3, f, l1, l2, l3, b1, b2, b3, bn, tn, v, an, e3, r2, z1, z2, k3, n3, g3, k4, br, tt, tr, nI_1, mx, g, List.length_nil, List.length_cons, Nat.zero_le] <;> first | done | decide | omega | fail) | fail) only [B_198_0, e_aload_n_0, G_702, e_iconst_0, e_call_2, psh_s, psh_n, Option.bind_some, e_istore_4, clr_i, clr_l, clr_a, clr_n, e_istore_5, e_gotow, T_198_14, e_iload_5, G_703, e_ic_ge, e_sipush_4096, e_iload_4, e_iload_n_3, e_aload_n_1, G_700, e_saload, e_iload_n_2, e_iand, e_bipush_m2, e_isub, e_istore_6, e_iload_6, e_if_lt, e_bipush_102, e_dup2, e_iaload, e_iconst_1, e_iadd, e_iastore, T_198_92, B_198_92, e_iinc_5_1, e_goto, T_198_98, B_198_98, R_198, kd_sI, ln_sI, hl_sI, gL_sI, gR_sI, kd_sL, ln_sL, hl_sL, gI_sL, gR_sL, kd_sR, ln_sR, hl_sR, gI_sR, gL_sR, kd_cpI, ln_cpI, hl_cpI, gL_cpI, gR_cpI, gI_cpI, gI_sI, gL_sL, gR_sR, St_sI, St_sL, St_cpI, Nat.reduceEqDiff, Nat.reduceAdd, eq_self, false_and, and_false, true_and, and_true, and_self, if_true, if_false, false_or, or_false, true_or, or_true, not_true_eq_false, not_false_eq_true, reduceIte, K_46, F_46_2, F_46_3, F_46_4, F_46_5, F_46_6, F_46_7, hS1, q3, ha2, ha3, f, l1, l2, l3, b1, b2, b3, bn, tn, v, an, e3, r2, z1, z2, k3, n3, g3, k4, br, tt, tr, nI_1, mx, g, List.length_nil, List.length_cons, Nat.zero_le]
      · rw [e2, List.foldl_cons, show tst (row L q) (T, M) s = (T', M') by rw [eT, eM]]
        exact hM3
