/-! what holds of a formula that is read: its steps and their number -/
def nLf (F : List (Int32 × Int32)) : Nat := F.countP (fun s => s.1 == 0 || s.1 == 1)
def nBi (F : List (Int32 × Int32)) : Nat := F.countP (fun s => s.1 == 3)
def nNt (F : List (Int32 × Int32)) : Nat := F.countP (fun s => s.1 == 2)
def Wh (T : Nat) : List (Int32 × Int32) → Nat → Nat → Prop
  | [], n, m => n = m
  | q :: r, n, m => (q.1 = 0 ∧ n < 31 ∧ (∃ a, a ≤ 9999 ∧ q.2 = nI a) ∧ Wh T r (n + 1) m) ∨ (q.1 = 1 ∧ n < 31 ∧ (∃ t, t < T ∧ q.2 = nI t) ∧ Wh T r (n + 1) m) ∨ (q.1 = 2 ∧ 1 ≤ n ∧ Wh T r n m) ∨ (q.1 = 3 ∧ 2 ≤ n ∧ sgn q.2 ∧ Wh T r (n - 1) m)
theorem Wh_app {T k : Nat} {G : List (Int32 × Int32)} : ∀ F n m, Wh T F n m → Wh T G m k → Wh T (F ++ G) n k
  | [], n, m, a, b => by
    have a : n = m := a
    subst a
    exact b
  | q :: r, n, m, a, b => by
    rcases a with ⟨a1, a2, a3, a4⟩ | ⟨a1, a2, a3, a4⟩ | ⟨a1, a2, a4⟩ | ⟨a1, a2, a3, a4⟩
    · exact Or.inl ⟨a1, a2, a3, Wh_app r _ _ a4 b⟩
    · exact Or.inr (Or.inl ⟨a1, a2, a3, Wh_app r _ _ a4 b⟩)
    · exact Or.inr (Or.inr (Or.inl ⟨a1, a2, Wh_app r _ _ a4 b⟩))
    · exact Or.inr (Or.inr (Or.inr ⟨a1, a2, a3, Wh_app r _ _ a4 b⟩))
theorem Wh_S {T : Nat} : ∀ F n, Wh T F n 1 → WfS T F n
  | [], n, a => a
  | q :: r, n, a => by
    rcases a with ⟨a1, a2, a3, a4⟩ | ⟨a1, a2, a3, a4⟩ | ⟨a1, a2, a4⟩ | ⟨a1, a2, a3, a4⟩
    · exact Or.inl ⟨a1, a2, a3, Wh_S r _ a4⟩
    · exact Or.inr (Or.inl ⟨a1, a2, a3, Wh_S r _ a4⟩)
    · exact Or.inr (Or.inr (Or.inl ⟨a1, a2, Wh_S r _ a4⟩))
    · exact Or.inr (Or.inr (Or.inr ⟨a1, a2, a3, Wh_S r _ a4⟩))
theorem cnt_c (q : Int32 × Int32) (r : List (Int32 × Int32)) : nLf (q :: r) = nLf r + (if q.1 = 0 ∨ q.1 = 1 then 1 else 0) ∧ nBi (q :: r) = nBi r + (if q.1 = 3 then 1 else 0) ∧ nNt (q :: r) = nNt r + (if q.1 = 2 then 1 else 0) := by
  unfold nLf nBi nNt
  simp only [List.countP_cons, Bool.or_eq_true, beq_iff_eq, and_self]
theorem Wh_cnt {T : Nat} : ∀ F n m, Wh T F n m → nLf F + n = nBi F + m ∧ F.length = nLf F + nBi F + nNt F
  | [], n, m, a => by
    have a : n = m := a
    subst a
    exact ⟨rfl, rfl⟩
  | q :: r, n, m, a => by
    obtain ⟨c1, c2, c3⟩ := cnt_c q r
    have e10 : ¬ (1 : Int32) = 0 := by decide
    have e13 : ¬ (1 : Int32) = 3 := by decide
    have e12 : ¬ (1 : Int32) = 2 := by decide
    have e03 : ¬ (0 : Int32) = 3 := by decide
    have e02 : ¬ (0 : Int32) = 2 := by decide
    have e20 : ¬ (2 : Int32) = 0 := by decide
    have e21 : ¬ (2 : Int32) = 1 := by decide
    have e23 : ¬ (2 : Int32) = 3 := by decide
    have e30 : ¬ (3 : Int32) = 0 := by decide
    have e31 : ¬ (3 : Int32) = 1 := by decide
    have e32 : ¬ (3 : Int32) = 2 := by decide
    rw [c1, c2, c3, List.length_cons]
    rcases a with ⟨a1, a2, a3, a4⟩ | ⟨a1, a2, a3, a4⟩ | ⟨a1, a2, a4⟩ | ⟨a1, a2, a3, a4⟩
    · have ih := Wh_cnt r _ _ a4
      rw [a1]
      simp only [true_or, if_true, e03, e02, if_false]
      omega
    · have ih := Wh_cnt r _ _ a4
      rw [a1]
      simp only [or_true, if_true, e13, e12, if_false]
      omega
    · have ih := Wh_cnt r _ _ a4
      rw [a1]
      simp only [e20, e21, or_self, if_true, e23, if_false]
      omega
    · have ih := Wh_cnt r _ _ a4
      rw [a1]
      simp only [e30, e31, or_self, if_true, e32, if_false]
      omega
theorem nLf_app (F G : List (Int32 × Int32)) : nLf (F ++ G) = nLf F + nLf G := List.countP_append ..
theorem nBi_app (F G : List (Int32 × Int32)) : nBi (F ++ G) = nBi F + nBi G := List.countP_append ..
theorem nNt_app (F G : List (Int32 × Int32)) : nNt (F ++ G) = nNt F + nNt G := List.countP_append ..
/-- the invariant: pend of the nots that are open stand here, c of them directly before, g values so far -/
def PI (x : Txt) (N : List Int64) (pre : List (Int32 × Int32)) (pend c g : Nat) (q : Qs) : Prop :=
  Wh N.length (qs q) 0 g ∧ (nLf pre + nLf (qs q) ≤ qu q ∧ qu q ≤ 120 ∧ qo q ≤ 30 ∧ nLf (qs q) ≤ qo q) ∧
  (4 * (nNt pre + nNt (qs q) + pend) ≤ tkS (tks x (qi q)) + 1 ∧ (tkK (tks x (qi q)) = 2 → 4 * (nNt pre + nNt (qs q) + pend) ≤ tkS (tks x (qi q)))) ∧ nNt (qs q) + pend ≤ 7 * qo q + c
theorem PI.stq {x : Txt} (hx : TxB x) {N : List Int64} {pre : List (Int32 × Int32)} {pend c g : Nat} {q : Qs} (h : PI x N pre pend c g q) (hk : ¬ tkK (tks x (qi q)) = 0) : PI x N pre pend c g (stq q) := by
  obtain ⟨a, b, ⟨c1, c2⟩, d⟩ := h
  have k := (tks_k hx (qi q) hk).2.1
  have k2 := tks_S hx (qi q)
  exact ⟨a, b, ⟨by show _ ≤ tkS (tks x (qi q + 1)) + 1; show 4 * (nNt pre + nNt (qs q) + pend) ≤ _; omega, fun _ => by show 4 * (nNt pre + nNt (qs q) + pend) ≤ tkS (tks x (qi q + 1)); omega⟩, d⟩
theorem rd_nz {x : Txt} {N : List Int64} {l d : Nat} {q : Qs} (h : ¬ qf q = 0) : ∀ f, ¬ qf (rd x N f l d q) = 0
  | 0 => by show ¬ (99 = 0); decide
  | f + 1 => by rw [rd_stop h]; exact h
theorem bad_nz {x : Txt} {c : Nat} (hc : 0 < c) (q : Qs) : ¬ qf (bad x c q) = 0 := by
  show ¬ (if tkK (tks x (qi q)) = 1 then 1 else c) = 0
  by_cases k : tkK (tks x (qi q)) = 1
  · rw [if_pos k]; decide
  · rw [if_neg k]; omega
def Lv (l : Nat) : Prop := l = 1 ∨ l = 2 ∨ l = 3 ∨ l = 5 ∨ l = 6 ∨ l = 7 ∨ l = 11 ∨ l = 12 ∨ l = 15 ∨ l = 16
theorem tg_k {t : Tk} (h : ¬ tg t = 0) : ¬ tkK t = 0 ∧ ¬ tkK t = 1 ∧ sgn (sg t) := by
  unfold tg at h
  unfold sg
  by_cases c : tkK t = 2
  · rw [if_pos c] at h
    rw [if_pos c]
    refine ⟨by omega, by omega, ?_⟩
    by_cases c2 : tkW t = 28530
    · rw [if_pos c2]; unfold sgn; simp
    · rw [if_neg c2]; unfold sgn; simp
  · rw [if_neg c] at h
    by_cases c2 : tkK t = 4
    · rw [if_pos c2] at h
      rw [if_neg c]
      refine ⟨by omega, by omega, ?_⟩
      generalize tkV t = v at h
      by_cases w : v = 60 ∨ v = 62 ∨ v = 61
      · rcases w with rfl | rfl | rfl <;> (unfold sgn; decide)
      · rw [if_neg w] at h
        by_cases w2 : v = 43 ∨ v = 45
        · rcases w2 with rfl | rfl <;> (unfold sgn; decide)
        · rw [if_neg w2] at h
          by_cases w3 : v = 42 ∨ v = 47 ∨ v = 37
          · rcases w3 with rfl | rfl | rfl <;> (unfold sgn; decide)
          · rw [if_neg w3] at h; exact absurd rfl h
    · rw [if_neg c2] at h; exact absurd rfl h
theorem PI.bin {x : Txt} {N : List Int64} {pre : List (Int32 × Int32)} {pend g : Nat} {q : Qs} {s : Int32} (h : PI x N pre pend 0 (g + 2) q) (hs : sgn s) (hf : qf q = 0) : PI x N pre pend 0 (g + 1) (emt (3, s) q) := by
  rw [emt_0 hf]
  obtain ⟨a, b, c, d⟩ := h
  have e1 : nLf (qs q ++ [(3, s)]) = nLf (qs q) := by rw [nLf_app]; rfl
  have e2 : nNt (qs q ++ [(3, s)]) = nNt (qs q) := by rw [nNt_app]; rfl
  unfold PI
  show Wh N.length (qs q ++ [(3, s)]) 0 (g + 1) ∧ _
  rw [show qs (qi q, 0, qu q, qo q, qs q ++ [((3 : Int32), s)]) = qs q ++ [(3, s)] from rfl, e1, e2]
  exact ⟨Wh_app _ _ _ a (Or.inr (Or.inr (Or.inr ⟨rfl, by omega, hs, rfl⟩))), b, c, d⟩
theorem isN_k {t : Tk} (h : isN t = true) : tkK t = 2 ∧ tkW t = 7237492 := by
  unfold isN at h
  simpa only [Bool.and_eq_true, beq_iff_eq] using h
theorem isS_k {t : Tk} {c : Nat} : isS t c = true ↔ tkK t = 4 ∧ tkV t = c := by
  unfold isS
  simp only [Bool.and_eq_true, beq_iff_eq]
theorem PI_rd {x : Txt} {N : List Int64} {pre : List (Int32 × Int32)} (hx : TxB x) : ∀ f l d q pend c g, Lv l → qf q = 0 → d ≤ 7 → c ≤ d → (10 ≤ l → c = 0 ∧ 1 ≤ g) → PI x N pre pend c g q → qf (rd x N f l d q) = 0 → PI x N pre pend 0 (if 10 ≤ l then g else g + 1) (rd x N f l d q) := by
  intro f
  induction f with
  | zero => intro l d q pend c g hv h hd hc h10 hP hr; exact absurd hr (by show ¬ (99 = 0); decide)
  | succ f ih =>
    intro l d q pend c g hv h hd hc h10 hP hr
    obtain ⟨p1, ⟨p2, p3, p4, p5⟩, ⟨p6, p7⟩, p8⟩ := hP
    have hP : PI x N pre pend c g q := ⟨p1, ⟨p2, p3, p4, p5⟩, ⟨p6, p7⟩, p8⟩
    have hcn := (Wh_cnt _ _ _ p1).1
    by_cases h7 : l = 7
    · subst h7
      rw [rd_7 h] at hr ⊢
      rw [if_neg (by decide)]
      unfold rdu at hr ⊢
      by_cases c1 : 30 ≤ qo q ∨ 120 ≤ qu q
      · rw [if_pos c1] at hr; exact absurd hr (bad_nz (by decide) q)
      · rw [if_neg c1] at hr ⊢
        by_cases c2 : tkK (tks x (qi q)) = 3
        · rw [if_pos c2]
          obtain ⟨p, hp, ep⟩ := tks_at x hx (qi q)
          have hv := tkn_num hx hp (by rw [← ep]; exact c2)
          rw [← ep] at hv
          have k := (tks_k hx (qi q) (by omega)).2.1
          have k2 := tks_S hx (qi q)
          have e1 : nLf (qs q ++ [((0 : Int32), nI (tkV (tks x (qi q))))]) = nLf (qs q) + 1 := by rw [nLf_app]; rfl
          have e2 : nNt (qs q ++ [((0 : Int32), nI (tkV (tks x (qi q))))]) = nNt (qs q) := by rw [nNt_app]; rfl
          refine ⟨Wh_app _ _ _ p1 (Or.inl ⟨rfl, by omega, ⟨_, hv, rfl⟩, rfl⟩), ⟨?_, ?_, ?_, ?_⟩, ⟨?_, fun _ => ?_⟩, ?_⟩
          · show nLf pre + nLf (qs q ++ [_]) ≤ qu q + 1; rw [e1]; omega
          · show qu q + 1 ≤ 120; omega
          · show qo q + 1 ≤ 30; omega
          · show nLf (qs q ++ [_]) ≤ qo q + 1; rw [e1]; omega
          · show 4 * (nNt pre + nNt (qs q ++ [_]) + pend) ≤ tkS (tks x (qi q + 1)) + 1; rw [e2]; omega
          · show 4 * (nNt pre + nNt (qs q ++ [_]) + pend) ≤ tkS (tks x (qi q + 1)); rw [e2]; omega
          · show nNt (qs q ++ [_]) + pend ≤ 7 * (qo q + 1) + 0; rw [e2]; omega
        · rw [if_neg c2] at hr ⊢
          by_cases c3 : isS (tks x (qi q)) 40 = true
          · rw [if_pos c3] at hr ⊢
            have k4 := isS_k.mp c3
            by_cases c4 : 6 < d
            · rw [if_pos c4] at hr; exact absurd hr (bad_nz (by decide) q)
            · rw [if_neg c4] at hr ⊢
              have k := (tks_k hx (qi q) (by omega)).2.1
              have k2 := tks_S hx (qi q)
              have hP' : PI x N pre pend 0 g (qi q + 1, 0, qu q + 1, qo q + 1, qs q) := by
                refine ⟨p1, ⟨?_, ?_, ?_, ?_⟩, ⟨?_, fun _ => ?_⟩, ?_⟩
                · show nLf pre + nLf (qs q) ≤ qu q + 1; omega
                · show qu q + 1 ≤ 120; omega
                · show qo q + 1 ≤ 30; omega
                · show nLf (qs q) ≤ qo q + 1; omega
                · show 4 * (nNt pre + nNt (qs q) + pend) ≤ tkS (tks x (qi q + 1)) + 1; omega
                · show 4 * (nNt pre + nNt (qs q) + pend) ≤ tkS (tks x (qi q + 1)); omega
                · show nNt (qs q) + pend ≤ 7 * (qo q + 1) + 0; omega
              have g1 := ih 1 (d + 1) (qi q + 1, 0, qu q + 1, qo q + 1, qs q) pend 0 g (Or.inl rfl) rfl (by omega) (by omega) (by intro z; omega) hP'
              rw [if_neg (by decide)] at g1
              generalize rd x N f 1 (d + 1) (qi q + 1, 0, qu q + 1, qo q + 1, qs q) = r at hr g1 ⊢
              by_cases c5 : qf r = 0
              · rw [if_neg (fun z => z c5)] at hr ⊢
                by_cases c6 : isS (tks x (qi r)) 41 = true
                · rw [if_pos c6] at hr ⊢
                  exact (g1 c5).stq hx (by have := isS_k.mp c6; omega)
                · rw [if_neg c6] at hr; exact absurd hr (bad_nz (by decide) r)
              · rw [if_pos c5] at hr; exact absurd hr c5
          · rw [if_neg c3] at hr ⊢
            by_cases c4 : nam (tks x (qi q)) = false
            · rw [if_pos c4] at hr; exact absurd hr (bad_nz (by decide) q)
            · rw [if_neg c4] at hr ⊢
              by_cases c5 : fnd N (tkW (tks x (qi q))) < N.length
              · rw [if_pos c5]
                have hk : tkK (tks x (qi q)) = 2 := by
                  unfold nam at c4
                  simp only [Bool.not_eq_false, Bool.and_eq_true, beq_iff_eq] at c4
                  exact c4.1
                have k := (tks_k hx (qi q) (by omega)).2.1
                have k2 := tks_S hx (qi q)
                have e1 : nLf (qs q ++ [((1 : Int32), nI (fnd N (tkW (tks x (qi q)))))]) = nLf (qs q) + 1 := by rw [nLf_app]; rfl
                have e2 : nNt (qs q ++ [((1 : Int32), nI (fnd N (tkW (tks x (qi q)))))]) = nNt (qs q) := by rw [nNt_app]; rfl
                refine ⟨Wh_app _ _ _ p1 (Or.inr (Or.inl ⟨rfl, by omega, ⟨_, c5, rfl⟩, rfl⟩)), ⟨?_, ?_, ?_, ?_⟩, ⟨?_, fun _ => ?_⟩, ?_⟩
                · show nLf pre + nLf (qs q ++ [_]) ≤ qu q + 1; rw [e1]; omega
                · show qu q + 1 ≤ 120; omega
                · show qo q + 1 ≤ 30; omega
                · show nLf (qs q ++ [_]) ≤ qo q + 1; rw [e1]; omega
                · show 4 * (nNt pre + nNt (qs q ++ [_]) + pend) ≤ tkS (tks x (qi q + 1)) + 1; rw [e2]; omega
                · show 4 * (nNt pre + nNt (qs q ++ [_]) + pend) ≤ tkS (tks x (qi q + 1)); rw [e2]; omega
                · show nNt (qs q ++ [_]) + pend ≤ 7 * (qo q + 1) + 0; rw [e2]; omega
              · rw [if_neg c5] at hr; exact absurd hr (bad_nz (by decide) q)
    · by_cases h3 : l = 3
      · subst h3
        rw [rd_3 h] at hr ⊢
        rw [if_neg (show ¬ 10 ≤ 3 by decide)]
        by_cases c1 : isN (tks x (qi q)) = true
        · rw [if_pos c1] at hr ⊢
          by_cases c2 : 6 < d
          · rw [if_pos c2] at hr; exact absurd hr (bad_nz (by decide) q)
          · rw [if_neg c2] at hr ⊢
            rw [emt_f] at hr
            obtain ⟨n1, n2⟩ := isN_k c1
            have n3 := tks_not hx n1 n2
            have n4 := p7 n1
            have hP' : PI x N pre (pend + 1) (c + 1) g (stq q) := by
              refine ⟨p1, ⟨p2, p3, p4, p5⟩, ⟨?_, fun z => ?_⟩, ?_⟩
              · show 4 * (nNt pre + nNt (qs q) + (pend + 1)) ≤ tkS (tks x (qi q + 1)) + 1; omega
              · have := n3.2 z
                show 4 * (nNt pre + nNt (qs q) + (pend + 1)) ≤ tkS (tks x (qi q + 1)); omega
              · show nNt (qs q) + (pend + 1) ≤ 7 * qo q + (c + 1); omega
            have g1 := ih 3 (d + 1) (stq q) (pend + 1) (c + 1) g (Or.inr (Or.inr (Or.inl rfl))) h (by omega) (by omega) (by intro z; omega) hP' hr
            rw [if_neg (by decide)] at g1
            generalize rd x N f 3 (d + 1) (stq q) = r at hr g1 ⊢
            rw [emt_0 hr]
            obtain ⟨r1, ⟨r2, r3, r4, r5⟩, ⟨r6, r7⟩, r8⟩ := g1
            have e1 : nLf (qs r ++ [((2 : Int32), (0 : Int32))]) = nLf (qs r) := by rw [nLf_app]; rfl
            have e2 : nNt (qs r ++ [((2 : Int32), (0 : Int32))]) = nNt (qs r) + 1 := by rw [nNt_app]; rfl
            refine ⟨Wh_app _ _ _ r1 (Or.inr (Or.inr (Or.inl ⟨rfl, by omega, rfl⟩))), ⟨?_, r3, r4, ?_⟩, ⟨?_, fun z => ?_⟩, ?_⟩
            · show nLf pre + nLf (qs r ++ [_]) ≤ qu r; rw [e1]; exact r2
            · show nLf (qs r ++ [_]) ≤ qo r; rw [e1]; exact r5
            · show 4 * (nNt pre + nNt (qs r ++ [_]) + pend) ≤ tkS (tks x (qi r)) + 1; rw [e2]; omega
            · have := r7 z
              show 4 * (nNt pre + nNt (qs r ++ [_]) + pend) ≤ tkS (tks x (qi r)); rw [e2]; omega
            · show nNt (qs r ++ [_]) + pend ≤ 7 * qo r + 0; rw [e2]; omega
        · rw [if_neg c1] at hr ⊢
          have g1 := ih 5 d q pend c g (by unfold Lv; omega) h hd hc (by intro z; omega) hP
          rw [if_neg (by decide)] at g1
          generalize rd x N f 5 d q = r at hr g1 ⊢
          unfold rdr at hr ⊢
          by_cases c2 : qf r = 0 ∧ tg (tks x (qi r)) = 4
          · rw [if_pos c2] at hr ⊢
            rw [emt_f] at hr
            have k := tg_k (t := tks x (qi r)) (by omega)
            have g2 := ih 5 d (stq r) pend 0 (g + 1) (by unfold Lv; omega) c2.1 hd (by omega) (by intro z; omega) ((g1 c2.1).stq hx k.1) hr
            rw [if_neg (by decide)] at g2
            exact g2.bin k.2.2 hr
          · rw [if_neg c2] at hr ⊢
            exact g1 hr
      · by_cases hl : 10 ≤ l
        · rw [rd_lp h hl] at hr ⊢
          rw [if_pos hl]
          obtain ⟨h10a, h10b⟩ := h10 hl
          subst h10a
          by_cases c1 : tg (tks x (qi q)) + 10 = l
          · rw [if_pos c1] at hr ⊢
            have k := tg_k (t := tks x (qi q)) (by unfold Lv at hv; omega)
            have hn : Lv (nxl (l - 10)) ∧ ¬ 10 ≤ nxl (l - 10) := by
              unfold Lv at hv
              rcases hv with rfl | rfl | rfl | rfl | rfl | rfl | rfl | rfl | rfl | rfl <;> first | omega | (unfold nxl Lv; decide)
            have g1 := ih (nxl (l - 10)) d (stq q) pend 0 g hn.1 h hd (by omega) (fun z => absurd z hn.2) (hP.stq hx k.1)
            rw [if_neg hn.2] at g1
            generalize rd x N f (nxl (l - 10)) d (stq q) = r at hr g1 ⊢
            by_cases c2 : qf r = 0
            · have g1 := g1 c2
              have g2 : PI x N pre pend 0 g (emt (3, sg (tks x (qi q))) r) := by
                obtain ⟨g', rfl⟩ : ∃ g', g = g' + 1 := ⟨g - 1, by omega⟩
                exact g1.bin k.2.2 c2
              have g3 := ih l d (emt (3, sg (tks x (qi q))) r) pend 0 g hv (by rw [emt_f]; exact c2) hd (by omega) (fun _ => ⟨rfl, h10b⟩) g2 hr
              rw [if_pos hl] at g3
              exact g3
            · exact absurd hr (rd_nz (by rw [emt_f]; exact c2) f)
          · rw [if_neg c1]; exact hP
        · rw [rd_lv h h7 h3 hl] at hr ⊢
          rw [if_neg hl]
          have hn : Lv (nxl l) ∧ ¬ 10 ≤ nxl l ∧ Lv (l + 10) := by
            unfold Lv at hv
            rcases hv with rfl | rfl | rfl | rfl | rfl | rfl | rfl | rfl | rfl | rfl <;> first | omega | (unfold nxl Lv; decide)
          have g1 := ih (nxl l) d q pend c g hn.1 h hd hc (fun z => absurd z hn.2.1) hP
          rw [if_neg hn.2.1] at g1
          generalize rd x N f (nxl l) d q = r at hr g1 ⊢
          by_cases c2 : qf r = 0
          · have g3 := ih (l + 10) d r pend 0 (g + 1) hn.2.2 c2 hd (by omega) (fun _ => ⟨rfl, by omega⟩) (g1 c2) hr
            rw [if_pos (by omega)] at g3
            exact g3
          · exact absurd hr (rd_nz c2 f)
theorem rd_qi {x : Txt} {N : List Int64} (hx : TxB x) : ∀ f l d q, Lv l → qi q ≤ 1600 → qi (rd x N f l d q) ≤ 1600 := by
  intro f
  induction f with
  | zero => intro l d q _ h; exact h
  | succ f ih =>
    intro l d q hv hi
    have st : ∀ r : Qs, ¬ tkK (tks x (qi r)) = 0 → qi r + 1 ≤ 1600 := fun r z => by have := tks_lt hx z; omega
    by_cases h : qf q = 0
    · by_cases h7 : l = 7
      · subst h7
        rw [rd_7 h]
        unfold rdu
        by_cases c1 : 30 ≤ qo q ∨ 120 ≤ qu q
        · rw [if_pos c1]; exact hi
        · rw [if_neg c1]
          by_cases c2 : tkK (tks x (qi q)) = 3
          · rw [if_pos c2]; exact st q (by omega)
          · rw [if_neg c2]
            by_cases c3 : isS (tks x (qi q)) 40 = true
            · rw [if_pos c3]
              have k4 := isS_k.mp c3
              by_cases c4 : 6 < d
              · rw [if_pos c4]; exact hi
              · rw [if_neg c4]
                have g := ih 1 (d + 1) (qi q + 1, 0, qu q + 1, qo q + 1, qs q) (Or.inl rfl) (st q (by omega))
                generalize rd x N f 1 (d + 1) (qi q + 1, 0, qu q + 1, qo q + 1, qs q) = r at g ⊢
                by_cases c5 : ¬ qf r = 0
                · rw [if_pos c5]; exact g
                · rw [if_neg c5]
                  by_cases c6 : isS (tks x (qi r)) 41 = true
                  · rw [if_pos c6]; exact st r (by have := isS_k.mp c6; omega)
                  · rw [if_neg c6]; exact g
            · rw [if_neg c3]
              by_cases c4 : nam (tks x (qi q)) = false
              · rw [if_pos c4]; exact hi
              · rw [if_neg c4]
                by_cases c5 : fnd N (tkW (tks x (qi q))) < N.length
                · rw [if_pos c5]
                  refine st q ?_
                  unfold nam at c4
                  simp only [Bool.not_eq_false, Bool.and_eq_true, beq_iff_eq] at c4
                  omega
                · rw [if_neg c5]; exact hi
      · by_cases h3 : l = 3
        · subst h3
          rw [rd_3 h]
          by_cases c1 : isN (tks x (qi q)) = true
          · rw [if_pos c1]
            by_cases c2 : 6 < d
            · rw [if_pos c2]; exact hi
            · rw [if_neg c2, emt_i]
              exact ih 3 (d + 1) (stq q) hv (st q (by have := isN_k c1; omega))
          · rw [if_neg c1]
            have g := ih 5 d q (by unfold Lv; omega) hi
            generalize rd x N f 5 d q = r at g ⊢
            unfold rdr
            by_cases c2 : qf r = 0 ∧ tg (tks x (qi r)) = 4
            · rw [if_pos c2, emt_i]
              exact ih 5 d (stq r) (by unfold Lv; omega) (st r (tg_k (t := tks x (qi r)) (by omega)).1)
            · rw [if_neg c2]; exact g
        · by_cases hl : 10 ≤ l
          · rw [rd_lp h hl]
            by_cases c1 : tg (tks x (qi q)) + 10 = l
            · rw [if_pos c1]
              have hn : Lv (nxl (l - 10)) := by
                unfold Lv at hv
                rcases hv with rfl | rfl | rfl | rfl | rfl | rfl | rfl | rfl | rfl | rfl <;> first | omega | (unfold nxl Lv; decide)
              refine ih l d _ hv ?_
              rw [emt_i]
              exact ih (nxl (l - 10)) d (stq q) hn (st q (tg_k (t := tks x (qi q)) (by unfold Lv at hv; omega)).1)
            · rw [if_neg c1]; exact hi
          · rw [rd_lv h h7 h3 hl]
            have hn : Lv (nxl l) ∧ Lv (l + 10) := by
              unfold Lv at hv
              rcases hv with rfl | rfl | rfl | rfl | rfl | rfl | rfl | rfl | rfl | rfl <;> first | omega | (unfold nxl Lv; decide)
            exact ih (l + 10) d _ hn.2 (ih (nxl l) d q hn.1 hi)
    · rw [rd_stop h]; exact hi
