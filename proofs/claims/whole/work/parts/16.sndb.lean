/-! the rows of the heap -/
theorem inB_of {i : Int32} {n N : Nat} (h : inBd i n = true) (hN : n ≤ N) : ¬ (i < 0 ∨ N ≤ i.toNatClampNeg) ∧ i.toNatClampNeg < n := by
  have h := of_decide_eq_true h
  refine ⟨fun q => h ?_, Nat.lt_of_not_le fun q => h (Or.inr q)⟩
  rcases q with q | q
  · exact Or.inl q
  · exact Or.inr (Nat.le_trans hN q)
section SIB
variable {l : Launch} {D : va_G} {cA : Nat → ClassId} {base b0 t0 n : Nat} {h : MH} {s : State} {H : Heap}
theorem arr_own (W0 : Wd D cA base b0 t0 h s H) {j : Nat} (h1 : 20 ≤ kd h (j + 2)) (h2 : kd h (j + 2) ≤ 24) : H[base + j]? = some (arrV (cA (kd h (j + 2))) (ln h (j + 2)) (aV h (j + 2))) := by
  rcases W0.2.1.2.2 j (kd_lt (by omega)) with ⟨q, -⟩ | ⟨-, -, q⟩
  · omega
  · exact q
theorem arr_cell (W0 : Wd D cA base b0 t0 h s H) {a : Nat} (h1 : 20 ≤ kd h a) (h2 : kd h a ≤ 24) : ∃ (cell : Cell) (ty : FieldType), H[trA base b0 t0 a]? = some cell ∧ s.isArrayOf cell ty ∧ cell.vm ≠ .unknown ∧ ln h a ≤ cell.slots.size ∧ cell.slots.size.toInt32 = Int32.ofNat (ln h a) ∧ (∀ j, j < ln h a → cell.slots[j]? = some (aV h a j)) ∧
    (kd h a = 20 → ty = .int) ∧ (kd h a = 21 → ty = .long) ∧ (kd h a = 22 → ty = .short) ∧ (kd h a = 23 → ty = .byte) ∧ (kd h a = 24 → ty = .boolean) := by
  match a, h1, h2 with
  | 0, h1, h2 =>
    obtain ⟨k0, -, -, ⟨scr, q1, q2, q3, q4, q5⟩, -, -⟩ := W0.2.2.1
    refine ⟨scr, .int, q1, q2, q3, by omega, by rw [q4] <;> rfl, fun j hj => ?_, fun _ => rfl, fun q => absurd q (by omega), fun q => absurd q (by omega), fun q => absurd q (by omega), fun q => absurd q (by omega)⟩
    rw [q5 j hj]
    unfold aV
    rw [if_neg (by omega)]
  | 1, h1, h2 =>
    obtain ⟨-, k1, -, -, -, cell, q1, q2, q3, q4, q5, q6, -⟩ := W0.2.2.1
    refine ⟨cell, .long, q1, q2, q3, q4, q5, fun j hj => ?_, fun q => absurd q (by omega), fun _ => rfl, fun q => absurd q (by omega), fun q => absurd q (by omega), fun q => absurd q (by omega)⟩
    rw [q6 j hj]
    unfold aV
    rw [if_pos k1]
  | j + 2, h1, h2 =>
    have e := arr_own W0 h1 h2
    obtain ⟨i, ty, ht, hty⟩ := tys_at (cA := cA) (kd h (j + 2)) h1 h2
    refine ⟨_, ty, e, (W0.1.2 i _ ht).1 _ _, (fun q => by cases q), by rw [arrV_size]; exact Nat.le_refl _, by rw [arrV_size] <;> rfl, fun i hi => arrV_read _ _ hi, hty⟩
theorem aV_i {a j : Nat} (hk : ¬ kd h a = 21) : aV h a j = .int (gI h a j) := if_neg hk
theorem aV_l {a j : Nat} (hk : kd h a = 21) : aV h a j = .long (gL h a j) := if_pos hk
theorem si_iaload : SG l D cA base b0 t0 n → SI l D cA base b0 t0 n .iaload := by
  intro ih k μ cs ls st h r h' hx pc hok p e R s m args below meth c H locs cells slots Q lsR C0 W0 S0 L0 f1 rc fin
  obtain ⟨o1, o2⟩ := ok2 hok rfl rfl
  obtain ⟨i, a, st', rfl, hk, hi, hx⟩ := ali_inv hx
  obtain ⟨cell, ty, q1, q2, q3, q4, q5, q6, t1, t2, t3, t4, t5⟩ := arr_cell W0 (a := a) (by omega) (by omega)
  cases t1 hk
  obtain ⟨b1, b2⟩ := inB_of hi q4
  exact W.iald (v := .int (gI h a i.toNatClampNeg)) C0.1 C0.2.1 q1 q2 q3 b1 (by rw [q6 _ b2, aV_i (by omega)]) rfl rfl (okD o1 (fun _ _ => rfl)) (ih k μ cs ls _ h r h' hx _ o2 p e R s m args below meth c H locs cells slots Q lsR C0 W0 S0 L0 f1 rc fin)
theorem si_saload : SG l D cA base b0 t0 n → SI l D cA base b0 t0 n .saload := by
  intro ih k μ cs ls st h r h' hx pc hok p e R s m args below meth c H locs cells slots Q lsR C0 W0 S0 L0 f1 rc fin
  obtain ⟨o1, o2⟩ := ok2 hok rfl rfl
  obtain ⟨i, a, st', rfl, hk, hi, hx⟩ := ali_inv hx
  obtain ⟨cell, ty, q1, q2, q3, q4, q5, q6, t1, t2, t3, t4, t5⟩ := arr_cell W0 (a := a) (by omega) (by omega)
  cases t3 hk
  obtain ⟨b1, b2⟩ := inB_of hi q4
  exact W.sald (v := .int (gI h a i.toNatClampNeg)) C0.1 C0.2.1 q1 q2 q3 b1 (by rw [q6 _ b2, aV_i (by omega)]) rfl rfl (okD o1 (fun _ _ => rfl)) (ih k μ cs ls _ h r h' hx _ o2 p e R s m args below meth c H locs cells slots Q lsR C0 W0 S0 L0 f1 rc fin)
theorem si_baload : SG l D cA base b0 t0 n → SI l D cA base b0 t0 n .baload := by
  intro ih k μ cs ls st h r h' hx pc hok p e R s m args below meth c H locs cells slots Q lsR C0 W0 S0 L0 f1 rc fin
  obtain ⟨o1, o2⟩ := ok2 hok rfl rfl
  obtain ⟨i, a, st', rfl, hk, hi, hx⟩ := alb_inv hx
  obtain ⟨cell, ty, q1, q2, q3, q4, q5, q6, t1, t2, t3, t4, t5⟩ := arr_cell W0 (a := a) (by omega) (by omega)
  obtain ⟨b1, b2⟩ := inB_of hi q4
  rcases hk with hk | hk
  · cases t4 hk
    exact W.bald (v := .int (gI h a i.toNatClampNeg)) C0.1 C0.2.1 q1 q2 q3 b1 (by rw [q6 _ b2, aV_i (by omega)]) rfl rfl (okD o1 (fun _ _ => rfl)) (ih k μ cs ls _ h r h' hx _ o2 p e R s m args below meth c H locs cells slots Q lsR C0 W0 S0 L0 f1 rc fin)
  · cases t5 hk
    exact W.zald (v := .int (gI h a i.toNatClampNeg)) C0.1 C0.2.1 q1 q2 q3 b1 (by rw [q6 _ b2, aV_i (by omega)]) rfl rfl (okD o1 (fun _ _ => rfl)) (ih k μ cs ls _ h r h' hx _ o2 p e R s m args below meth c H locs cells slots Q lsR C0 W0 S0 L0 f1 rc fin)
theorem si_laload : SG l D cA base b0 t0 n → SI l D cA base b0 t0 n .laload := by
  intro ih k μ cs ls st h r h' hx pc hok p e R s m args below meth c H locs cells slots Q lsR C0 W0 S0 L0 f1 rc fin
  obtain ⟨o1, o2⟩ := ok2 hok rfl rfl
  obtain ⟨i, a, st', rfl, hk, hi, hx⟩ := all_inv hx
  obtain ⟨cell, ty, q1, q2, q3, q4, q5, q6, t1, t2, t3, t4, t5⟩ := arr_cell W0 (a := a) (by omega) (by omega)
  cases t2 hk
  obtain ⟨b1, b2⟩ := inB_of hi q4
  exact W.lald (v := .long (gL h a i.toNatClampNeg)) C0.1 C0.2.1 q1 q2 q3 b1 (by rw [q6 _ b2, aV_l hk]) rfl rfl (okD o1 (fun _ _ => rfl)) (ih k μ cs ls _ h r h' hx _ o2 p e R s m args below meth c H locs cells slots Q lsR C0 W0 S0 L0 f1 rc fin)
theorem si_alen : SG l D cA base b0 t0 n → SI l D cA base b0 t0 n .arraylength := by
  intro ih k μ cs ls st h r h' hx pc hok p e R s m args below meth c H locs cells slots Q lsR C0 W0 S0 L0 f1 rc fin
  obtain ⟨o1, o2⟩ := ok2 hok rfl rfl
  obtain ⟨a, st', rfl, hk, hx⟩ := aln_inv hx
  obtain ⟨cell, ty, q1, q2, q3, q4, q5, q6, -⟩ := arr_cell W0 (a := a) hk.1 hk.2
  exact W.alen C0.1 C0.2.1 q1 q2 q5 rfl rfl (okD o1 (fun _ _ => rfl)) (ih k μ cs ls _ h r h' hx _ o2 p e R s m args below meth c H locs cells slots Q lsR C0 W0 S0 L0 f1 rc fin)
theorem wd_ast (W0 : Wd D cA base b0 t0 h s H) {j i : Nat} {x : Int32} {H1 : Heap} (h1 : 20 ≤ kd h (j + 2)) (h2 : kd h (j + 2) ≤ 24) (h3 : ¬ kd h (j + 2) = 21) (e1 : H1[base + j]? = some ((arrV (cA (kd h (j + 2))) (ln h (j + 2)) (aV h (j + 2))).setSlot i (.int x))) (z : H1.size = H.size) (oq : ∀ q : Nat, q ≠ base + j → H1[q]? = H[q]?) : Wd D cA base b0 t0 (sI h (j + 2) i x) s H1 := by
  refine W0.upd j rfl (fun y hy k => if_neg (fun q => hy q.1)) (fun _ _ _ => rfl) (fun _ _ _ => rfl) z oq (Or.inr ⟨h1, h2, ?_⟩)
  rw [e1, arrV_store]
  congr 2
  funext y
  show updV (aV h (j + 2)) i (.int x) y = aV (sI h (j + 2) i x) (j + 2) y
  rw [aV_i (h := sI h (j + 2) i x) h3, gI_sI]
  unfold updV
  by_cases e : y = i
  · rw [if_pos e, if_pos ⟨rfl, e⟩]
  · rw [if_neg e, if_neg (fun q => e q.2), aV_i h3]
theorem wd_lst (W0 : Wd D cA base b0 t0 h s H) {j i : Nat} {x : Int64} {H1 : Heap} (h3 : kd h (j + 2) = 21) (e1 : H1[base + j]? = some ((arrV (cA (kd h (j + 2))) (ln h (j + 2)) (aV h (j + 2))).setSlot i (.long x))) (z : H1.size = H.size) (oq : ∀ q : Nat, q ≠ base + j → H1[q]? = H[q]?) : Wd D cA base b0 t0 (sL h (j + 2) i x) s H1 := by
  have h4 : kd (sL h (j + 2) i x) (j + 2) = 21 := h3
  refine W0.upd j rfl (fun _ _ _ => rfl) (fun y hy k => if_neg (fun q => hy q.1)) (fun _ _ _ => rfl) z oq (Or.inr ⟨by omega, by omega, ?_⟩)
  rw [e1, arrV_store]
  congr 2
  funext y
  show updV (aV h (j + 2)) i (.long x) y = aV (sL h (j + 2) i x) (j + 2) y
  rw [aV_l h4, gL_sL]
  unfold updV
  by_cases e : y = i
  · rw [if_pos e, if_pos ⟨rfl, e⟩]
  · rw [if_neg e, if_neg (fun q => e q.2), aV_l h3]
theorem st_own {a : Nat} (ha : 2 ≤ a) : ∃ j, a = j + 2 := ⟨a - 2, by omega⟩
theorem ty_own (W0 : Wd D cA base b0 t0 h s H) {t : Nat} {ty : FieldType} {j : Nat} (hk : kd h (j + 2) = t) (ht : ∃ i : Nat, (tysL cA)[i]? = some (cA t, ty)) : s.isArrayOf (arrV (cA (kd h (j + 2))) (ln h (j + 2)) (aV h (j + 2))) ty := by
  obtain ⟨i, hi⟩ := ht
  rw [hk]
  exact (W0.1.2 i _ hi).1 _ _
theorem si_iastore : SG l D cA base b0 t0 n → SI l D cA base b0 t0 n .iastore := by
  intro ih k μ cs ls st h r h' hx pc hok p e R s m args below meth c H locs cells slots Q lsR C0 W0 S0 L0 f1 rc fin
  obtain ⟨o1, o2⟩ := ok2 hok rfl rfl
  obtain ⟨x, i, a, st', rfl, ⟨ha, hk, hi⟩, hx⟩ := asi_inv hx
  obtain ⟨j, rfl⟩ := st_own ha
  obtain ⟨b1, b2⟩ := inB_of hi (Nat.le_refl _)
  exact W.iast C0.1 C0.2.1 (arr_own W0 (by omega) (by omega)) (ty_own W0 hk ⟨0, rfl⟩) (fun q => by cases q) (by rw [arrV_size]; exact b1) rfl rfl (okD o1 (fun _ _ => rfl)) fun H1 e1 z oq =>
    ih k μ cs ls _ _ r h' hx _ o2 p e R s m args below meth c H1 _ cells slots Q lsR C0 (wd_ast W0 (by omega) (by omega) (by omega) e1 z oq) (S0.put z oq (show base ≤ base + j by omega)) L0 f1 rc fin
theorem si_sastore : SG l D cA base b0 t0 n → SI l D cA base b0 t0 n .sastore := by
  intro ih k μ cs ls st h r h' hx pc hok p e R s m args below meth c H locs cells slots Q lsR C0 W0 S0 L0 f1 rc fin
  obtain ⟨o1, o2⟩ := ok2 hok rfl rfl
  obtain ⟨x, i, a, st', rfl, ⟨ha, hk, hi⟩, hx⟩ := ass_inv hx
  obtain ⟨j, rfl⟩ := st_own ha
  obtain ⟨b1, b2⟩ := inB_of hi (Nat.le_refl _)
  exact W.sast C0.1 C0.2.1 (arr_own W0 (by omega) (by omega)) (ty_own W0 hk ⟨2, rfl⟩) (fun q => by cases q) (by rw [arrV_size]; exact b1) rfl rfl (okD o1 (fun _ _ => rfl)) fun H1 e1 z oq =>
    ih k μ cs ls _ _ r h' hx _ o2 p e R s m args below meth c H1 _ cells slots Q lsR C0 (wd_ast W0 (by omega) (by omega) (by omega) e1 z oq) (S0.put z oq (show base ≤ base + j by omega)) L0 f1 rc fin
theorem si_bastore : SG l D cA base b0 t0 n → SI l D cA base b0 t0 n .bastore := by
  intro ih k μ cs ls st h r h' hx pc hok p e R s m args below meth c H locs cells slots Q lsR C0 W0 S0 L0 f1 rc fin
  obtain ⟨o1, o2⟩ := ok2 hok rfl rfl
  obtain ⟨x, i, a, st', rfl, ⟨⟨ha, hk, hi⟩, hx⟩ | ⟨⟨ha, hk, hi⟩, hx⟩⟩ := asb_inv hx
  · obtain ⟨j, rfl⟩ := st_own ha
    obtain ⟨b1, b2⟩ := inB_of hi (Nat.le_refl _)
    exact W.bast C0.1 C0.2.1 (arr_own W0 (by omega) (by omega)) (ty_own W0 hk ⟨3, rfl⟩) (fun q => by cases q) (by rw [arrV_size]; exact b1) rfl rfl (okD o1 (fun _ _ => rfl)) fun H1 e1 z oq =>
      ih k μ cs ls _ _ r h' hx _ o2 p e R s m args below meth c H1 _ cells slots Q lsR C0 (wd_ast W0 (by omega) (by omega) (by omega) e1 z oq) (S0.put z oq (show base ≤ base + j by omega)) L0 f1 rc fin
  · obtain ⟨j, rfl⟩ := st_own ha
    obtain ⟨b1, b2⟩ := inB_of hi (Nat.le_refl _)
    exact W.zast C0.1 C0.2.1 (arr_own W0 (by omega) (by omega)) (ty_own W0 hk ⟨4, rfl⟩) (fun q => by cases q) (by rw [arrV_size]; exact b1) rfl rfl (okD o1 (fun _ _ => rfl)) fun H1 e1 z oq =>
      ih k μ cs ls _ _ r h' hx _ o2 p e R s m args below meth c H1 _ cells slots Q lsR C0 (wd_ast W0 (by omega) (by omega) (by omega) e1 z oq) (S0.put z oq (show base ≤ base + j by omega)) L0 f1 rc fin
theorem si_lastore : SG l D cA base b0 t0 n → SI l D cA base b0 t0 n .lastore := by
  intro ih k μ cs ls st h r h' hx pc hok p e R s m args below meth c H locs cells slots Q lsR C0 W0 S0 L0 f1 rc fin
  obtain ⟨o1, o2⟩ := ok2 hok rfl rfl
  obtain ⟨x, i, a, st', rfl, ⟨ha, hk, hi⟩, hx⟩ := asl_inv hx
  obtain ⟨j, rfl⟩ := st_own ha
  obtain ⟨b1, b2⟩ := inB_of hi (Nat.le_refl _)
  exact W.last C0.1 C0.2.1 (arr_own W0 (by omega) (by omega)) (ty_own W0 hk ⟨1, rfl⟩) (fun q => by cases q) (by rw [arrV_size]; exact b1) rfl rfl (okD o1 (fun _ _ => rfl)) fun H1 e1 z oq =>
    ih k μ cs ls _ _ r h' hx _ o2 p e R s m args below meth c H1 _ cells slots Q lsR C0 (wd_lst W0 hk e1 z oq) (S0.put z oq (show base ≤ base + j by omega)) L0 f1 rc fin
end SIB
