/-! CELLS 0 AND 1 STAY: no run writes them. -/
def Kp (h h' : MH) : Prop := 2 ≤ h.1.length → 2 ≤ h'.1.length ∧ (∀ k, gI h' 0 k = gI h 0 k) ∧ kd h' 0 = kd h 0 ∧ ln h' 0 = ln h 0
theorem Kp.refl (h : MH) : Kp h h := fun q => ⟨q, fun _ => rfl, rfl, rfl⟩
theorem Kp.trans {a b c : MH} (x : Kp a b) (y : Kp b c) : Kp a c := fun q => by
  obtain ⟨x1, x2, x3, x4⟩ := x q
  obtain ⟨y1, y2, y3, y4⟩ := y x1
  exact ⟨y1, fun k => (y2 k).trans (x2 k), y3.trans x3, y4.trans x4⟩
theorem kp_sI {h : MH} {a k : Nat} {v : Int32} (ha : 2 ≤ a) : Kp h (sI h a k v) := fun q => ⟨q, fun j => by
  show (if 0 = a ∧ j = k then v else h.2.1 0 j) = h.2.1 0 j
  rw [if_neg (by omega)], rfl, rfl⟩
theorem kp_sL {h : MH} {a k : Nat} {v : Int64} : Kp h (sL h a k v) := fun q => ⟨q, fun _ => rfl, rfl, rfl⟩
theorem kp_sR {h : MH} {a k : Nat} {v : Value} : Kp h (sR h a k v) := fun q => ⟨q, fun _ => rfl, rfl, rfl⟩
theorem kp_cpI {h : MH} {a s b d n : Nat} (ha : 2 ≤ b) : Kp h (cpI h a s b d n) := fun q => ⟨q, fun j => by
  show (if 0 = b then va_cpy (h.2.1 a) (h.2.1 b) s d n j else h.2.1 0 j) = h.2.1 0 j
  rw [if_neg (by omega)], rfl, rfl⟩
theorem kp_nC {h : MH} {t n : Nat} : Kp h (nC h t n) := fun q => by
  obtain ⟨s, i, l, r⟩ := h
  match s, q with
  | x :: y :: s, q =>
    refine ⟨?_, fun j => ?_, rfl, rfl⟩
    · show 2 ≤ ((x :: y :: s) ++ [(t, n)]).length
      simp
    · show (if 0 = (x :: y :: s).length then 0 else i 0 j) = i 0 j
      rw [if_neg (by simp)]
def KO (h : MH) (o : Ouc) : Prop := match o with
  | none => True
  | some (.inl r) => Kp h r.2
  | some (.inr (.inl s)) => Kp h s.2.2.2
  | some (.inr (.inr (_, _, s))) => Kp h s.2.2.2
theorem ko_nx (cs : List IR) (ls : LV) (st : List Value) (h : MH) : KO h (nx cs ls st h) := Kp.refl h
theorem ko_o1 (f : Int32 → Int32) (cs : List IR) (ls : LV) (st : List Value) (h : MH) : KO h (o1 f cs ls st h) := by
  unfold o1; split <;> first | exact trivial | exact Kp.refl h
theorem ko_o2 (f : Int32 → Int32 → Int32) (cs : List IR) (ls : LV) (st : List Value) (h : MH) : KO h (o2 f cs ls st h) := by
  unfold o2; split <;> first | exact trivial | exact Kp.refl h
theorem ko_o2z (f : Int32 → Int32 → Int32) (cs : List IR) (ls : LV) (st : List Value) (h : MH) : KO h (o2z f cs ls st h) := by
  unfold o2z; (repeat' split) <;> first | exact trivial | exact Kp.refl h
theorem ko_q2 (f : Int64 → Int64 → Int64) (cs : List IR) (ls : LV) (st : List Value) (h : MH) : KO h (q2 f cs ls st h) := by
  unfold q2; (repeat' split) <;> first | exact trivial | exact Kp.refl h
theorem ko_ldi (i : Nat) (cs : List IR) (ls : LV) (st : List Value) (h : MH) : KO h (ldi i cs ls st h) := by
  unfold ldi; (repeat' split) <;> first | exact trivial | exact Kp.refl h
theorem ko_ldl (i : Nat) (cs : List IR) (ls : LV) (st : List Value) (h : MH) : KO h (ldl i cs ls st h) := by
  unfold ldl; (repeat' split) <;> first | exact trivial | exact Kp.refl h
theorem ko_lda (i : Nat) (cs : List IR) (ls : LV) (st : List Value) (h : MH) : KO h (lda i cs ls st h) := by
  unfold lda; (repeat' split) <;> first | exact trivial | exact Kp.refl h
theorem ko_sti (i : Nat) (cs : List IR) (ls : LV) (st : List Value) (h : MH) : KO h (sti i cs ls st h) := by
  unfold sti; (repeat' split) <;> first | exact trivial | exact Kp.refl h
theorem ko_sta (i : Nat) (cs : List IR) (ls : LV) (st : List Value) (h : MH) : KO h (sta i cs ls st h) := by
  unfold sta; (repeat' split) <;> first | exact trivial | exact Kp.refl h
theorem ko_stg (i : Nat) (cs : List IR) (ls : LV) (st : List Value) (h : MH) : KO h (stg i cs ls st h) := by
  unfold stg; (repeat' split) <;> first | exact trivial | exact Kp.refl h
theorem ko_bf (k : Nat) (c : Jvm.ClassFile.Cond) (t : Int) (cs : List IR) (ls : LV) (st : List Value) (h : MH) : KO h (bf k c t cs ls st h) := by
  unfold bf; (repeat' split) <;> first | exact trivial | exact Kp.refl h
theorem ko_bc (k : Nat) (c : Jvm.ClassFile.Cond) (t : Int) (cs : List IR) (ls : LV) (st : List Value) (h : MH) : KO h (bc k c t cs ls st h) := by
  unfold bc; (repeat' split) <;> first | exact trivial | exact Kp.refl h
theorem ko_bnn (k : Nat) (t : Int) (cs : List IR) (ls : LV) (st : List Value) (h : MH) : KO h (bnn k t cs ls st h) := by
  unfold bnn; (repeat' split) <;> first | exact trivial | exact Kp.refl h
theorem ko_tsw (k : Nat) (d lo hi : Int) (os : Array Int) (ls : LV) (st : List Value) (h : MH) : KO h (tsw k d lo hi os ls st h) := by
  unfold tsw; (repeat' split) <;> first | exact trivial | exact Kp.refl h
theorem ko_lsw (k : Nat) (d : Int) (ps : Array (Int × Int)) (ls : LV) (st : List Value) (h : MH) : KO h (lsw k d ps ls st h) := by
  unfold lsw; (repeat' split) <;> first | exact trivial | exact Kp.refl h
theorem ko_ali (t : Nat) (cs : List IR) (ls : LV) (st : List Value) (h : MH) : KO h (ali t cs ls st h) := by
  unfold ali; (repeat' split) <;> first | exact trivial | exact Kp.refl h
theorem ko_alb (cs : List IR) (ls : LV) (st : List Value) (h : MH) : KO h (alb cs ls st h) := by
  unfold alb; (repeat' split) <;> first | exact trivial | exact Kp.refl h
theorem ko_all (cs : List IR) (ls : LV) (st : List Value) (h : MH) : KO h (all_ cs ls st h) := by
  unfold all_; (repeat' split) <;> first | exact trivial | exact Kp.refl h
theorem ko_aln (cs : List IR) (ls : LV) (st : List Value) (h : MH) : KO h (aln cs ls st h) := by
  unfold aln; (repeat' split) <;> first | exact trivial | exact Kp.refl h
theorem ko_gtf (f : Nat) (cs : List IR) (ls : LV) (st : List Value) (h : MH) : KO h (gtf f cs ls st h) := by
  unfold gtf; (repeat' split) <;> first | exact trivial | exact Kp.refl h
theorem ko_asi (cs : List IR) (ls : LV) (st : List Value) (h : MH) : KO h (asi cs ls st h) := by
  unfold asi; (repeat' split) <;> first | exact trivial | (rename_i q; exact kp_sI q.1)
theorem ko_ass (cs : List IR) (ls : LV) (st : List Value) (h : MH) : KO h (ass cs ls st h) := by
  unfold ass; (repeat' split) <;> first | exact trivial | (rename_i q; exact kp_sI q.1)
theorem ko_asb (cs : List IR) (ls : LV) (st : List Value) (h : MH) : KO h (asb cs ls st h) := by
  unfold asb; (repeat' split) <;> first | exact trivial | (rename_i q; exact kp_sI q.1)
theorem ko_asl (cs : List IR) (ls : LV) (st : List Value) (h : MH) : KO h (asl cs ls st h) := by
  unfold asl; (repeat' split) <;> first | exact trivial | exact kp_sL
theorem ko_ptf (f : Nat) (cs : List IR) (ls : LV) (st : List Value) (h : MH) : KO h (ptf f cs ls st h) := by
  unfold ptf
  split
  · split
    · rename_i q
      have q := q.2.2
      (repeat' split) <;> first | exact trivial | exact kp_sI q | exact kp_sL | exact kp_sR
    · exact trivial
  · exact trivial
theorem ko_nwa (t : ArrayType) (cs : List IR) (ls : LV) (st : List Value) (h : MH) : KO h (nwa t cs ls st h) := by
  unfold nwa; (repeat' split) <;> first | exact trivial | exact kp_nC
theorem ko_nwo (c : Nat) (cs : List IR) (ls : LV) (st : List Value) (h : MH) : KO h (nwo c cs ls st h) := by
  unfold nwo; (repeat' split) <;> first | exact trivial | exact kp_nC
theorem ko_acp (cs : List IR) (ls : LV) (st : List Value) (h : MH) : KO h (acp cs ls st h) := by
  unfold acp; (repeat' split) <;> first | exact trivial | (rename_i q; exact kp_cpI q.1.1)
theorem ko_rti (k : Nat) (st : List Value) (h : MH) : KO h (rti k st h) := by
  unfold rti; (repeat' split) <;> first | exact trivial | exact Kp.refl h
theorem ko_stp (k : Nat) (i : IR) (cs : List IR) (ls : LV) (st : List Value) (h : MH) : KO h (stp k i cs ls st h) := by
  cases i <;> first
    | exact trivial
    | exact ko_nx _ _ _ h
    | exact ko_o2 _ _ _ _ h
    | exact ko_o1 _ _ _ _ h
    | exact ko_o2z _ _ _ _ h
    | exact ko_q2 _ _ _ _ h
    | exact ko_ldi _ _ _ _ h
    | exact ko_ldl _ _ _ _ h
    | exact ko_lda _ _ _ _ h
    | exact ko_sti _ _ _ _ h
    | exact ko_sta _ _ _ _ h
    | exact ko_stg _ _ _ _ h
    | exact ko_bf _ _ _ _ _ _ h
    | exact ko_bc _ _ _ _ _ _ h
    | exact ko_bnn _ _ _ _ _ h
    | exact ko_tsw _ _ _ _ _ _ _ h
    | exact ko_lsw _ _ _ _ _ h
    | exact ko_ali _ _ _ _ h
    | exact ko_alb _ _ _ h
    | exact ko_all _ _ _ h
    | exact ko_aln _ _ _ h
    | exact ko_gtf _ _ _ _ h
    | exact ko_asi _ _ _ h
    | exact ko_ass _ _ _ h
    | exact ko_asb _ _ _ h
    | exact ko_asl _ _ _ h
    | exact ko_ptf _ _ _ _ h
    | exact ko_nwa _ _ _ _ h
    | exact ko_nwo _ _ _ _ h
    | exact ko_acp _ _ _ h
    | exact ko_rti _ _ h
    | (simp only [stp]; (repeat' split) <;> first | exact trivial | exact Kp.refl h)
theorem kp_xec (n : Nat) : ∀ (k μ : Nat) (cs : List IR) (ls : LV) (st : List Value) (h : MH) (r : Rz), xec n k μ cs ls st h = some r → Kp h r.2 := by
  induction n with
  | zero => intro k μ cs ls st h r e; cases e
  | succ n ih =>
    intro k μ cs ls st h r e
    match cs, e with
    | i :: cs, e =>
      have e : KK (xec n) k μ (stp k i cs ls st h) = some r := e
      have hk := ko_stp k i cs ls st h
      generalize stp k i cs ls st h = o at e hk
      match o, e, hk with
      | some (.inl q), e, hk =>
        have e : some q = some r := e
        cases e
        exact hk
      | some (.inr (.inl s)), e, hk => exact Kp.trans hk (ih _ _ _ _ _ _ _ e)
      | some (.inr (.inr (k', ar, s))), e, hk =>
        simp only [KK] at e
        split at e
        · obtain ⟨q, h1, h2⟩ := Option.bind_eq_some_iff.mp e
          exact Kp.trans hk (Kp.trans (ih _ _ _ _ _ _ _ h1) (ih _ _ _ _ _ _ _ h2))
        · cases e
theorem kp_rn {k μ : Nat} {cs : List IR} {ls : LV} {st : List Value} {h : MH} {r : Rz} (e : rn k μ cs ls st h = some r) : Kp h r.2 := by
  obtain ⟨n, e⟩ := rn_to e
  exact kp_xec n _ _ _ _ _ _ _ e
theorem kp_cal {k μ : Nat} {a : List Value} {h : MH} {r : Rz} (e : cal k a μ h = some r) : Kp h r.2 := by
  unfold cal at e
  split at e
  · exact kp_rn e
  · cases e
