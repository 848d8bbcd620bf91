/-! WHAT A STEP SAYS BACKWARDS; what a run makes -/
section INV
variable {rec : Rec} {k k' μ : Nat} {cs : List IR} {ls : LV} {st : List Value} {h : MH} {x : Rz}
theorem o1_inv {f : Int32 → Int32} (e : KK rec k μ (o1 f cs ls st h) = some x) : ∃ a st', st = .int a :: st' ∧ rec k μ cs ls (.int (f a) :: st') h = some x := by
  unfold o1 at e
  split at e
  · exact ⟨_, _, rfl, e⟩
  · cases e
theorem o2_inv {f : Int32 → Int32 → Int32} (e : KK rec k μ (o2 f cs ls st h) = some x) : ∃ b a st', st = .int b :: .int a :: st' ∧ rec k μ cs ls (.int (f a b) :: st') h = some x := by
  unfold o2 at e
  split at e
  · exact ⟨_, _, _, rfl, e⟩
  · cases e
theorem o2z_inv {f : Int32 → Int32 → Int32} (e : KK rec k μ (o2z f cs ls st h) = some x) : ∃ b a st', st = .int b :: .int a :: st' ∧ ¬ b = 0 ∧ rec k μ cs ls (.int (f a b) :: st') h = some x := by
  unfold o2z at e
  split at e
  · split at e
    · cases e
    · rename_i hz
      exact ⟨_, _, _, rfl, hz, e⟩
  · cases e
theorem q2_inv {f : Int64 → Int64 → Int64} (e : KK rec k μ (q2 f cs ls st h) = some x) : ∃ b a st', st = .long b :: .long a :: st' ∧ rec k μ cs ls (.long (f a b) :: st') h = some x := by
  unfold q2 at e
  split at e
  · exact ⟨_, _, _, rfl, e⟩
  · cases e
theorem ldi_inv {i : Nat} (e : KK rec k μ (ldi i cs ls st h) = some x) : ∃ v, ls.getD i none = some (.int v) ∧ rec k μ cs ls (.int v :: st) h = some x := by
  unfold ldi at e
  split at e
  · rename_i hz
    exact ⟨_, hz, e⟩
  · cases e
theorem ldl_inv {i : Nat} (e : KK rec k μ (ldl i cs ls st h) = some x) : ∃ v, ls.getD i none = some (.long v) ∧ rec k μ cs ls (.long v :: st) h = some x := by
  unfold ldl at e
  split at e
  · rename_i hz
    exact ⟨_, hz, e⟩
  · cases e
theorem lda_inv {i : Nat} (e : KK rec k μ (lda i cs ls st h) = some x) : ∃ v, ls.getD i none = some (.ref v) ∧ rec k μ cs ls (.ref v :: st) h = some x := by
  unfold lda at e
  split at e
  · rename_i hz
    exact ⟨_, hz, e⟩
  · cases e
theorem sti_inv {i : Nat} (e : KK rec k μ (sti i cs ls st h) = some x) : ∃ v st', st = .int v :: st' ∧ i < ls.length ∧ rec k μ cs (st1 ls i (.int v)) st' h = some x := by
  unfold sti at e
  split at e
  · split at e
    · rename_i hz
      exact ⟨_, _, rfl, hz, e⟩
    · cases e
  · cases e
theorem sta_inv {i : Nat} (e : KK rec k μ (sta i cs ls st h) = some x) : ∃ v st', st = .ref v :: st' ∧ i < ls.length ∧ rec k μ cs (st1 ls i (.ref v)) st' h = some x := by
  unfold sta at e
  split at e
  · split at e
    · rename_i hz
      exact ⟨_, _, rfl, hz, e⟩
    · cases e
  · cases e
theorem stg_inv {i : Nat} (e : KK rec k μ (stg i cs ls st h) = some x) : ∃ v st', st = .long v :: st' ∧ i + 1 < ls.length ∧ rec k μ cs (st2 ls i (.long v)) st' h = some x := by
  unfold stg at e
  split at e
  · split at e
    · rename_i hz
      exact ⟨_, _, rfl, hz, e⟩
    · cases e
  · cases e
def cnd (c : Jvm.ClassFile.Cond) (a b : Int32) : Prop := match c with
  | .eq => a = b
  | .ne => ¬ a = b
  | .lt => a < b
  | .ge => b ≤ a
  | .gt => b < a
  | .le => a ≤ b
theorem ite_inv {c : Prop} (hd : Decidable c) {a b : Ouc} (e : KK rec k μ (@ite _ c hd a b) = some x) : (c → KK rec k μ a = some x) ∧ (¬ c → KK rec k μ b = some x) := by
  refine ⟨fun hc => ?_, fun hc => ?_⟩
  · rw [if_pos hc] at e; exact e
  · rw [if_neg hc] at e; exact e
theorem bf_inv {c : Jvm.ClassFile.Cond} {t : Int} (e : KK rec k μ (bf k' c t cs ls st h) = some x) : ∃ v st', st = .int v :: st' ∧ (cnd c v 0 → rec k μ (tgt k' t) ls st' h = some x) ∧ (¬ cnd c v 0 → rec k μ cs ls st' h = some x) := by
  unfold bf at e
  split at e
  · refine ⟨_, _, rfl, ?_⟩
    cases c
    · exact ite_inv _ e
    · obtain ⟨a, b⟩ := ite_inv _ e
      exact ⟨b, fun q => a (Classical.not_not.mp q)⟩
    · exact ite_inv _ e
    · exact ite_inv _ e
    · exact ite_inv _ e
    · exact ite_inv _ e
  · cases e
theorem bc_inv {c : Jvm.ClassFile.Cond} {t : Int} (e : KK rec k μ (bc k' c t cs ls st h) = some x) : ∃ y v st', st = .int y :: .int v :: st' ∧ (cnd c v y → rec k μ (tgt k' t) ls st' h = some x) ∧ (¬ cnd c v y → rec k μ cs ls st' h = some x) := by
  unfold bc at e
  split at e
  · refine ⟨_, _, _, rfl, ?_⟩
    cases c
    · exact ite_inv _ e
    · obtain ⟨a, b⟩ := ite_inv _ e
      exact ⟨b, fun q => a (Classical.not_not.mp q)⟩
    · exact ite_inv _ e
    · exact ite_inv _ e
    · exact ite_inv _ e
    · exact ite_inv _ e
  · cases e
theorem bnn_inv {t : Int} (e : KK rec k μ (bnn k' t cs ls st h) = some x) : (∃ v st', st = .ref v :: st' ∧ rec k μ (tgt k' t) ls st' h = some x) ∨ (∃ st', st = .null :: st' ∧ rec k μ cs ls st' h = some x) := by
  unfold bnn at e
  split at e
  · exact Or.inl ⟨_, _, rfl, e⟩
  · exact Or.inr ⟨_, rfl, e⟩
  · cases e
theorem tsw_inv {d lo hi : Int} {os : Array Int} (e : KK rec k μ (tsw k' d lo hi os ls st h) = some x) : ∃ v st', st = .int v :: st' ∧ (((v.toInt < lo ∨ hi < v.toInt) ∧ rec k μ (tgt k' d) ls st' h = some x) ∨ (¬ (v.toInt < lo ∨ hi < v.toInt) ∧ ∃ t, os[(v.toInt - lo).toNat]? = some t ∧ rec k μ (tgt k' t) ls st' h = some x)) := by
  unfold tsw at e
  split at e
  · refine ⟨_, _, rfl, ?_⟩
    split at e
    · rename_i hz
      exact Or.inl ⟨hz, e⟩
    · rename_i hz
      refine Or.inr ⟨hz, ?_⟩
      split at e
      · rename_i t ht
        exact ⟨t, ht, e⟩
      · cases e
  · cases e
theorem lsw_inv {d : Int} {ps : Array (Int × Int)} (e : KK rec k μ (lsw k' d ps ls st h) = some x) : ∃ v st', st = .int v :: st' ∧ rec k μ (tgt k' (lkp ps.toList d v.toInt)) ls st' h = some x := by
  unfold lsw at e
  split at e
  · exact ⟨_, _, rfl, e⟩
  · cases e
theorem ali_inv {t : Nat} (e : KK rec k μ (ali t cs ls st h) = some x) : ∃ i a st', st = .int i :: .ref a :: st' ∧ kd h a = t ∧ inBd i (ln h a) = true ∧ rec k μ cs ls (.int (gI h a i.toNatClampNeg) :: st') h = some x := by
  unfold ali at e
  split at e
  · split at e
    · rename_i hz
      exact ⟨_, _, _, rfl, hz.1, hz.2, e⟩
    · cases e
  · cases e
theorem alb_inv (e : KK rec k μ (alb cs ls st h) = some x) : ∃ i a st', st = .int i :: .ref a :: st' ∧ (kd h a = 23 ∨ kd h a = 24) ∧ inBd i (ln h a) = true ∧ rec k μ cs ls (.int (gI h a i.toNatClampNeg) :: st') h = some x := by
  unfold alb at e
  split at e
  · split at e
    · rename_i hz
      exact ⟨_, _, _, rfl, hz.1, hz.2, e⟩
    · cases e
  · cases e
theorem all_inv (e : KK rec k μ (all_ cs ls st h) = some x) : ∃ i a st', st = .int i :: .ref a :: st' ∧ kd h a = 21 ∧ inBd i (ln h a) = true ∧ rec k μ cs ls (.long (gL h a i.toNatClampNeg) :: st') h = some x := by
  unfold all_ at e
  split at e
  · split at e
    · rename_i hz
      exact ⟨_, _, _, rfl, hz.1, hz.2, e⟩
    · cases e
  · cases e
theorem asi_inv (e : KK rec k μ (asi cs ls st h) = some x) : ∃ v i a st', st = .int v :: .int i :: .ref a :: st' ∧ (2 ≤ a ∧ kd h a = 20 ∧ inBd i (ln h a) = true) ∧ rec k μ cs ls st' (sI h a i.toNatClampNeg v) = some x := by
  unfold asi at e
  split at e
  · split at e
    · rename_i hz
      exact ⟨_, _, _, _, rfl, hz, e⟩
    · cases e
  · cases e
theorem ass_inv (e : KK rec k μ (ass cs ls st h) = some x) : ∃ v i a st', st = .int v :: .int i :: .ref a :: st' ∧ (2 ≤ a ∧ kd h a = 22 ∧ inBd i (ln h a) = true) ∧ rec k μ cs ls st' (sI h a i.toNatClampNeg v.toInt16.toInt32) = some x := by
  unfold ass at e
  split at e
  · split at e
    · rename_i hz
      exact ⟨_, _, _, _, rfl, hz, e⟩
    · cases e
  · cases e
theorem asb_inv (e : KK rec k μ (asb cs ls st h) = some x) : ∃ v i a st', st = .int v :: .int i :: .ref a :: st' ∧ (((2 ≤ a ∧ kd h a = 23 ∧ inBd i (ln h a) = true) ∧ rec k μ cs ls st' (sI h a i.toNatClampNeg v.toInt8.toInt32) = some x) ∨ ((2 ≤ a ∧ kd h a = 24 ∧ inBd i (ln h a) = true) ∧ rec k μ cs ls st' (sI h a i.toNatClampNeg (v &&& 1)) = some x)) := by
  unfold asb at e
  split at e
  · split at e
    · rename_i hz
      exact ⟨_, _, _, _, rfl, Or.inl ⟨hz, e⟩⟩
    · split at e
      · rename_i hz
        exact ⟨_, _, _, _, rfl, Or.inr ⟨hz, e⟩⟩
      · cases e
  · cases e
theorem asl_inv (e : KK rec k μ (asl cs ls st h) = some x) : ∃ v i a st', st = .long v :: .int i :: .ref a :: st' ∧ (2 ≤ a ∧ kd h a = 21 ∧ inBd i (ln h a) = true) ∧ rec k μ cs ls st' (sL h a i.toNatClampNeg v) = some x := by
  unfold asl at e
  split at e
  · split at e
    · rename_i hz
      exact ⟨_, _, _, _, rfl, hz, e⟩
    · cases e
  · cases e
theorem aln_inv (e : KK rec k μ (aln cs ls st h) = some x) : ∃ a st', st = .ref a :: st' ∧ (20 ≤ kd h a ∧ kd h a ≤ 24) ∧ rec k μ cs ls (.int (nI (ln h a)) :: st') h = some x := by
  unfold aln at e
  split at e
  · split at e
    · rename_i hz
      exact ⟨_, _, rfl, hz, e⟩
    · cases e
  · cases e
theorem gtf_inv {f : Nat} (e : KK rec k μ (gtf f cs ls st h) = some x) : ∃ a st', st = .ref a :: st' ∧ (kd h a = f / 100 ∧ f / 100 < 13 ∧ 2 ≤ a) ∧ rec k μ cs ls (rdF h a f :: st') h = some x := by
  unfold gtf at e
  split at e
  · split at e
    · rename_i hz
      exact ⟨_, _, rfl, hz, e⟩
    · cases e
  · cases e
theorem ptf_inv {f : Nat} (e : KK rec k μ (ptf f cs ls st h) = some x) : ∃ v a st', st = v :: .ref a :: st' ∧ (kd h a = f / 100 ∧ f / 100 < 13 ∧ 2 ≤ a) ∧
    ((fty f = 0 ∧ ∃ y, v = .int y ∧ rec k μ cs ls st' (sI h a (f % 100) y) = some x) ∨ (fty f = 1 ∧ ∃ y, v = .long y ∧ rec k μ cs ls st' (sL h a (f % 100) y) = some x) ∨ (fty f = 2 ∧ ∃ y, v = .ref y ∧ rec k μ cs ls st' (sR h a (f % 100) (.ref y)) = some x) ∨ (fty f = 3 ∧ ∃ y, v = .int y ∧ (y = 0 ∨ y = 1) ∧ rec k μ cs ls st' (sI h a (f % 100) y) = some x)) := by
  unfold ptf at e
  split at e
  · split at e
    · rename_i hz
      refine ⟨_, _, _, rfl, hz, ?_⟩
      split at e
      · rename_i q
        exact Or.inl ⟨q, _, rfl, e⟩
      · rename_i q
        exact Or.inr (Or.inl ⟨q, _, rfl, e⟩)
      · rename_i q
        exact Or.inr (Or.inr (Or.inl ⟨q, _, rfl, e⟩))
      · rename_i q
        split at e
        · rename_i z
          exact Or.inr (Or.inr (Or.inr ⟨q, _, rfl, z, e⟩))
        · cases e
      · cases e
    · cases e
  · cases e
theorem nwa_inv {t : ArrayType} (e : KK rec k μ (nwa t cs ls st h) = some x) : ∃ n st', st = .int n :: st' ∧ (aty t ≤ 24 ∧ ¬ n < 0 ∧ n.toNatClampNeg ≤ 65536) ∧ rec k μ cs ls (.ref h.1.length :: st') (nC h (aty t) n.toNatClampNeg) = some x := by
  unfold nwa at e
  split at e
  · split at e
    · rename_i hz
      exact ⟨_, _, rfl, hz, e⟩
    · cases e
  · cases e
theorem nwo_inv {c : Nat} (e : KK rec k μ (nwo c cs ls st h) = some x) : c < 13 ∧ rec k μ cs ls (.ref h.1.length :: st) (nC h c (flen.getD c 0)) = some x := by
  unfold nwo at e
  split at e
  · rename_i hz
    exact ⟨hz, e⟩
  · cases e
theorem acp_inv (e : KK rec k μ (acp cs ls st h) = some x) : ∃ n dp b sp a st', st = .int n :: .int dp :: .ref b :: .int sp :: .ref a :: st' ∧ ((2 ≤ a ∧ a = b ∧ kd h a = 20 ∧ st'.length ≤ 4) ∧ ¬ sp < 0 ∧ ¬ dp < 0 ∧ ¬ n < 0 ∧ sp.toNatClampNeg + n.toNatClampNeg ≤ ln h a ∧ dp.toNatClampNeg + n.toNatClampNeg ≤ ln h a) ∧ rec k μ cs ls st' (cpI h a sp.toNatClampNeg a dp.toNatClampNeg n.toNatClampNeg) = some x := by
  unfold acp at e
  split at e
  · split at e
    · rename_i hz
      exact ⟨_, _, _, _, _, _, rfl, hz, e⟩
    · cases e
  · cases e
end INV
/-- what a step makes: nothing is taken away -/
def GR (o : Ouc) (h : MH) : Prop := match o with
  | none => True
  | some (.inl r) => r.2 = h
  | some (.inr (.inl s)) => h.1.length ≤ s.2.2.2.1.length ∧ szH h ≤ szH s.2.2.2
  | some (.inr (.inr (_, _, s))) => s.2.2.2 = h
theorem szH_nC (h : MH) (t n : Nat) : szH (nC h t n) = szH h + n := by
  simp [szH, nC]
theorem gr_nC (h : MH) (t n : Nat) : h.1.length ≤ (nC h t n).1.length ∧ szH h ≤ szH (nC h t n) := by
  refine ⟨by simp [nC], by rw [szH_nC]; omega⟩
set_option maxHeartbeats 4000000 in
theorem gr_stp (k : Nat) (i : IR) (cs : List IR) (ls : LV) (st : List Value) (h : MH) : GR (stp k i cs ls st h) h := by
  cases i <;> simp only [stp, o1, o2, o2z, q2, ldi, ldl, lda, sti, sta, stg, bf, bc, bnn, tsw, lsw, ali, alb, all_, asi, ass, asb, asl, aln, gtf, ptf, nwa, nwo, acp, rti] <;> (repeat' split) <;> first | exact trivial | exact ⟨Nat.le_refl _, Nat.le_refl _⟩ | exact gr_nC _ _ _ | exact rfl
theorem grow (n : Nat) : ∀ (k μ : Nat) (cs : List IR) (ls : LV) (st : List Value) (h : MH) (r : Option Value) (h' : MH), xec n k μ cs ls st h = some (r, h') → h.1.length ≤ h'.1.length ∧ szH h ≤ szH h' := by
  induction n with
  | zero => intro k μ cs ls st h r h' e; cases e
  | succ n ih =>
    intro k μ cs ls st h r h' e
    match cs, e with
    | i :: cs, e =>
      have g := gr_stp k i cs ls st h
      have e : KK (xec n) k μ (stp k i cs ls st h) = some (r, h') := e
      generalize stp k i cs ls st h = o at g e
      match o, g, e with
      | some (.inl q), g, e =>
        have e2 : q = (r, h') := Option.some.inj e
        subst e2
        have g : h' = h := g
        subst g
        exact ⟨Nat.le_refl _, Nat.le_refl _⟩
      | some (.inr (.inl s)), g, e =>
        obtain ⟨a, b⟩ := ih _ _ _ _ _ _ _ _ e
        exact ⟨Nat.le_trans g.1 a, Nat.le_trans g.2 b⟩
      | some (.inr (.inr (k', ar, s))), g, e =>
        have g : s.2.2.2 = h := g
        simp only [KK] at e
        split at e
        · obtain ⟨q, h1, h2⟩ := Option.bind_eq_some_iff.mp e
          obtain ⟨a, b⟩ := ih _ _ _ _ _ _ _ _ h1
          obtain ⟨a2, b2⟩ := ih _ _ _ _ _ _ _ _ h2
          rw [g] at a b
          exact ⟨Nat.le_trans a a2, Nat.le_trans b b2⟩
        · cases e
