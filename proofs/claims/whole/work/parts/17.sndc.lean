/-! fields, new cells, the copy of a row, the static array -/
theorem okGet {k pc f : Nat} (h : okI k pc (.getfield f) = true) : ∃ x, decode (mB k) pc = .ok (.getfield x, 3) ∧ (mC k, x, f) ∈ fT ∧ f % 100 < flen.getD (f / 100) 0 := by
  obtain ⟨raw, len, e, h⟩ := okT h
  simp only [okR] at h
  split at h
  · simp only [Bool.and_eq_true, beq_iff_eq, decide_eq_true_eq] at h
    obtain ⟨rfl, h2, h3⟩ := h
    exact ⟨_, e, List.contains_iff_mem.mp h2, h3⟩
  · cases h
theorem okPut {k pc f : Nat} (h : okI k pc (.putfield f) = true) : ∃ x, decode (mB k) pc = .ok (.putfield x, 3) ∧ (mC k, x, f) ∈ fT ∧ f % 100 < flen.getD (f / 100) 0 ∧ (ffin f = false ∨ (mC k = f / 100 ∧ (mY k).name = "<init>")) := by
  obtain ⟨raw, len, e, h⟩ := okT h
  simp only [okR] at h
  split at h
  · simp only [Bool.and_eq_true, Bool.or_eq_true, beq_iff_eq, decide_eq_true_eq, Bool.not_eq_true'] at h
    obtain ⟨rfl, h2, h3, h4⟩ := h
    exact ⟨_, e, List.contains_iff_mem.mp h2, h3, h4⟩
  · cases h
theorem okNew {k pc f : Nat} (h : okI k pc (.new f) = true) : ∃ x, decode (mB k) pc = .ok (.new x, 3) ∧ (mC k, x, f) ∈ clT := by
  obtain ⟨raw, len, e, h⟩ := okT h
  simp only [okR] at h
  split at h
  · simp only [Bool.and_eq_true, beq_iff_eq] at h
    obtain ⟨rfl, h2⟩ := h
    exact ⟨_, e, List.contains_iff_mem.mp h2⟩
  · cases h
theorem okGs {k pc f : Nat} (h : okI k pc (.getstatic f) = true) : ∃ x, decode (mB k) pc = .ok (.getstatic x, 3) ∧ (mC k, x) ∈ gST := by
  obtain ⟨raw, len, e, h⟩ := okT h
  simp only [okR] at h
  split at h
  · simp only [Bool.and_eq_true, beq_iff_eq] at h
    obtain ⟨rfl, h2⟩ := h
    exact ⟨_, e, List.contains_iff_mem.mp h2⟩
  · cases h
theorem okOi {k pc f : Nat} (h : okI k pc (.invokespecial f) = true) : ∃ x, decode (mB k) pc = .ok (.invokespecial x, 3) ∧ (mC k, x) ∈ oIT := by
  obtain ⟨raw, len, e, h⟩ := okT h
  simp only [okR] at h
  split at h
  · simp only [Bool.and_eq_true, beq_iff_eq] at h
    obtain ⟨rfl, h2⟩ := h
    exact ⟨_, e, List.contains_iff_mem.mp h2⟩
  · cases h
theorem okAc {k pc f : Nat} (h : okI k pc (.invokestatic f) = true) : ∃ x, decode (mB k) pc = .ok (.invokestatic x, 3) ∧ (mC k, x) ∈ aCT := by
  obtain ⟨raw, len, e, h⟩ := okT h
  simp only [okR] at h
  split at h
  · simp only [Bool.and_eq_true, beq_iff_eq] at h
    obtain ⟨rfl, h2⟩ := h
    exact ⟨_, e, List.contains_iff_mem.mp h2⟩
  · cases h
theorem f_split (f : Nat) : 100 * (f / 100) + f % 100 = f := Nat.div_add_mod f 100
theorem rdF_I (h : MH) (a f : Nat) (hf : fty f = 0 ∨ fty f = 3) : rdF h a f = .int (gI h a (f % 100)) := by
  unfold rdF
  rcases hf with e | e <;> rw [e] <;> rfl
theorem rdF_L (h : MH) (a f : Nat) (hf : fty f = 1) : rdF h a f = .long (gL h a (f % 100)) := by
  unfold rdF
  rw [hf]
  rfl
theorem rdF_R (h : MH) (a f : Nat) (hf : fty f = 2) : rdF h a f = gR h a (f % 100) := by
  unfold rdF
  rw [hf]
  rfl
section SIC
variable {l : Launch} {D : va_G} {cA : Nat → ClassId} {base b0 t0 n : Nat} {h : MH} {s : State} {H : Heap}
theorem obj_own (W0 : Wd D cA base b0 t0 h s H) {j : Nat} (h1 : kd h (j + 2) < 13) : t_OB (base + j) (D.1 (kd h (j + 2))) (vT (kd h (j + 2))).2.2 (D.2 (kd h (j + 2))) H (fV base b0 t0 h (j + 2)) := by
  rcases W0.2.1.2.2 j (kd_lt (by omega)) with ⟨-, q⟩ | ⟨q, -⟩
  · exact q
  · omega
theorem si_getfield (f : Nat) : SG l D cA base b0 t0 n → SI l D cA base b0 t0 n (.getfield f) := by
  intro ih k μ cs ls st h r h' hx pc hok p e R s m args below meth c H locs cells slots Q lsR C0 W0 S0 L0 f1 rc fin
  obtain ⟨o1, o2⟩ := ok2 hok rfl rfl
  obtain ⟨x, hd, hm, hlt⟩ := okGet o1
  obtain ⟨a, st', rfl, ⟨hk, hc, ha⟩, hx⟩ := gtf_inv hx
  obtain ⟨j, rfl⟩ := st_own ha
  obtain ⟨cell, q1, q2, q3, q4⟩ := obj_own W0 (j := j) (by omega)
  have hl := vT_len _ hc
  have hk2 : f % 100 < (vT (f / 100)).2.2 := by rw [hl.1]; exact hlt
  obtain ⟨hS, hfc, kC, hkC, hkind⟩ := W0.1.1 (f / 100) _ (vT_get _ hc)
  obtain ⟨cf, kf, fi, fd, hi, hsl⟩ := hS (f % 100) hk2
  rw [hk] at q4
  refine W.getf C0.1 C0.2.1 C0.2.2.2.1 (C0.2.2.2.2.2 _ (tb (fT_w _ hm) rfl)) hi (u_facts hfc hkC (u_lays C0.2.2.2.2.2 (vT_uw _ hc) hk2) hi).1 q1 (by rw [q3]; exact fun h => by cases h) (v := trV base b0 t0 (rdF h (j + 2) f)) ?_ rfl rfl hd (ih k μ cs ls _ h r h' hx _ o2 p e R s m args below meth c H locs cells slots Q lsR C0 W0 S0 L0 f1 rc fin)
  rw [hsl, q4 _ hk2]
  unfold fV
  rw [hk, f_split]
/-- a field is written: the world behind it -/
theorem wd_put (W0 : Wd D cA base b0 t0 h s H) {h1 : MH} {j f : Nat} {v : Value} {H1 : Heap} {cell : Cell} (hc : f / 100 < 13) (hk : kd h (j + 2) = f / 100) (hlt : f % 100 < (vT (f / 100)).2.2)
    (hap : ∀ x y, x < (vT (f / 100)).2.2 → y < (vT (f / 100)).2.2 → x ≠ y → D.2 (f / 100) x ≠ D.2 (f / 100) y)
    (q2 : cell.cls = D.1 (f / 100)) (q3 : cell.vm = .none) (q4 : ∀ k, k < (vT (f / 100)).2.2 → cell.slots[D.2 (f / 100) k]? = some (fV base b0 t0 h (j + 2) k))
    (hs : h1.1 = h.1) (hI : ∀ x, x ≠ j + 2 → ∀ k, gI h1 x k = gI h x k) (hL : ∀ x, x ≠ j + 2 → ∀ k, gL h1 x k = gL h x k) (hQ : ∀ x, x ≠ j + 2 → ∀ k, gR h1 x k = gR h x k)
    (hv : ∀ i, i < 100 → trV base b0 t0 (rdF h1 (j + 2) (100 * (f / 100) + i)) = if i = f % 100 then v else trV base b0 t0 (rdF h (j + 2) (100 * (f / 100) + i)))
    (e1 : H1[base + j]? = some (cell.setSlot (D.2 (f / 100) (f % 100)) v)) (z : H1.size = H.size) (oq : ∀ q : Nat, q ≠ base + j → H1[q]? = H[q]?) : Wd D cA base b0 t0 h1 s H1 := by
  have hk1 : kd h1 (j + 2) = f / 100 := by rw [← hk]; unfold kd; rw [hs]
  refine W0.upd j hs hI hL hQ z oq (Or.inl ⟨by omega, ?_⟩)
  rw [hk1]
  refine t_OB.to (V := updV (fV base b0 t0 h (j + 2)) (f % 100) v) ⟨_, e1, q2, q3, t_set q4 hap hlt v⟩ (fun i hi => ?_)
  have h88 := (vT_len _ hc).2.2
  unfold updV
  show (if i = f % 100 then v else fV base b0 t0 h (j + 2) i) = fV base b0 t0 h1 (j + 2) i
  unfold fV
  rw [hk1, hk]
  exact (hv i (by omega)).symm
theorem mod_c {c i : Nat} (hi : i < 100) : (100 * c + i) % 100 = i ∧ (100 * c + i) / 100 = c := by omega
theorem rdF_sI {j f i : Nat} {y : Int32} (hf : fty f = 0 ∨ fty f = 3) (hi : i < 100) : trV base b0 t0 (rdF (sI h (j + 2) (f % 100) y) (j + 2) (100 * (f / 100) + i)) = if i = f % 100 then .int y else trV base b0 t0 (rdF h (j + 2) (100 * (f / 100) + i)) := by
  by_cases e : i = f % 100
  · subst e
    rw [if_pos rfl, f_split, rdF_I _ _ _ hf, gI_sI, if_pos ⟨rfl, rfl⟩]
    rfl
  · rw [if_neg e]
    congr 1
    have hm := (mod_c (c := f / 100) hi).1
    unfold rdF
    split
    · rfl
    · rfl
    · rw [gI_sI, hm, if_neg (fun q => e q.2)]
theorem rdF_sL {j f i : Nat} {y : Int64} (hf : fty f = 1) (hi : i < 100) : trV base b0 t0 (rdF (sL h (j + 2) (f % 100) y) (j + 2) (100 * (f / 100) + i)) = if i = f % 100 then .long y else trV base b0 t0 (rdF h (j + 2) (100 * (f / 100) + i)) := by
  by_cases e : i = f % 100
  · subst e
    rw [if_pos rfl, f_split, rdF_L _ _ _ hf, gL_sL, if_pos ⟨rfl, rfl⟩]
    rfl
  · rw [if_neg e]
    congr 1
    have hm := (mod_c (c := f / 100) hi).1
    unfold rdF
    split
    · rw [gL_sL, hm, if_neg (fun q => e q.2)]
    · rfl
    · rfl
theorem rdF_sR {j f i : Nat} {y : Value} (hf : fty f = 2) (hi : i < 100) : trV base b0 t0 (rdF (sR h (j + 2) (f % 100) y) (j + 2) (100 * (f / 100) + i)) = if i = f % 100 then trV base b0 t0 y else trV base b0 t0 (rdF h (j + 2) (100 * (f / 100) + i)) := by
  by_cases e : i = f % 100
  · subst e
    rw [if_pos rfl, f_split, rdF_R _ _ _ hf, gR_sR, if_pos ⟨rfl, rfl⟩]
  · rw [if_neg e]
    congr 1
    have hm := (mod_c (c := f / 100) hi).1
    unfold rdF
    split
    · rfl
    · rw [gR_sR, hm, if_neg (fun q => e q.2)]
    · rfl
/-- the machine's own row for a field of any class of ours -/
theorem W_put {p : Program} {e : Env} {R : Room} {m : MethodId} {args : Array Value} {below : List Frame} {meth : Method} {c : Code} {locs : List Loc} {cells slots : Nat} {Q : State → Prop} {lsR : Array Slot} {k pc f x j : Nat} {v : Value} {ty : FieldType} {rest : List Value} (C0 : CX k p s m args meth c) (W0 : Wd D cA base b0 t0 h s H)
    (hd : decode (mB k) pc = .ok (.putfield x, 3)) (hm : (mC k, x, f) ∈ fT) (hc : f / 100 < 13) (hk : kd h (j + 2) = f / 100) (hlt : f % 100 < (vT (f / 100)).2.2) (hfin : ffin f = false ∨ (mC k = f / 100 ∧ (mY k).name = "<init>"))
    (hty : vty (f / 100) (f % 100) = ty) (hn : narrow ty v = v) (hfit : fits ty v = true)
    (kk : ∀ (H1 : Heap) (cell : Cell), cell.cls = D.1 (f / 100) → cell.vm = .none → (∀ k, k < (vT (f / 100)).2.2 → cell.slots[D.2 (f / 100) k]? = some (fV base b0 t0 h (j + 2) k)) → (∀ x y, x < (vT (f / 100)).2.2 → y < (vT (f / 100)).2.2 → x ≠ y → D.2 (f / 100) x ≠ D.2 (f / 100) y) →
      H1[base + j]? = some (cell.setSlot (D.2 (f / 100) (f % 100)) v) → H1.size = H.size → (∀ q : Nat, q ≠ base + j → H1[q]? = H[q]?) → W p l e R s m args below meth c H1 (locs ++ [⟨base + j, D.2 (f / 100) (f % 100)⟩]) cells slots Q (F0 m (pc + 3) lsR rest)) :
    W p l e R s m args below meth c H locs cells slots Q (F0 m pc lsR (v :: .ref (base + j) :: rest)) := by
  obtain ⟨cell, q1, q2, q3, q4⟩ := obj_own W0 (j := j) (by omega)
  rw [hk] at q4 q2
  have hts := C0.2.2.2.2.2
  have hin := vT_uw _ hc
  have hdesc := (vT_ty _ hc (f % 100) hlt).trans (congrArg some hty)
  have hap := va_apart (own := (vT (f / 100)).1) hts hin (vty (f / 100)) (vT_ty _ hc) (vT_nm _ hc) W0.1 (vT_get _ hc)
  obtain ⟨hS, hfc, kC, hkC, hkind⟩ := W0.1.1 (f / 100) _ (vT_get _ hc)
  obtain ⟨cf, kf, fi, fd, hi, hsl⟩ := hS (f % 100) hlt
  have hst := (u_facts hfc hkC (u_lays hts hin hlt) hi).1
  have htd := vT_td _ hc (f % 100) hlt
  rw [f_split] at htd
  have hlay := hts _ (hin _ (u_in_lay hlt))
  unfold u_lay at hlay
  cases hff : ffin f with
  | false =>
    rw [if_neg (by rw [htd.2.2, hff]; decide)] at hlay
    have h6 := u_store hfc hkC hkind hlay hi hdesc hn hfit
    refine W.putK C0.1 C0.2.1 (f := fd) ⟨C0.2.2.2.1, hts _ (tb (fT_w _ hm) rfl), ⟨_, _, _, hi⟩, hst⟩ (by rw [q2]; exact h6) q1 q3 (by rw [hsl]; exact k2_hasslot (q4 _ hlt)) rfl rfl hd fun H' e1 e2 e3 => ?_
    rw [hsl] at e1 ⊢
    exact kk H' cell q2 q3 q4 hap e1 e2 e3
  | true =>
    rw [if_pos (by rw [htd.2.2, hff])] at hlay
    rcases hfin with hfin | ⟨hmc, hnm⟩
    · rw [hff] at hfin; cases hfin
    have hcf : m.cls = cf := by
      obtain ⟨_, _, c', _, _, _, -, -, hf', -, -, -, hown2, -⟩ := Cond.laysFinal_spec hlay
      have e1 : c' = cf := by have := hi.symm.trans hf'; simp at this; exact this.1.symm
      rw [htd.2.1, (vT_len _ hc).2.1, ← hmc] at hown2
      rw [← e1]; exact Option.some.inj (C0.2.2.2.1.symm.trans hown2)
    have h6 := u_fits hfc hkC hkind (Or.inr hlay) hi hdesc hn hfit
    refine W.putFinK C0.1 C0.2.1 C0.2.2.2.1 (hts _ (tb (fT_w _ hm) rfl)) hi hst hcf (C0.2.2.2.2.1 hnm) (by rw [q2]; exact h6) q1 q3 (by rw [hsl]; exact k2_hasslot (q4 _ hlt)) rfl rfl hd fun H' e1 e2 e3 => ?_
    rw [hsl] at e1 ⊢
    exact kk H' cell q2 q3 q4 hap e1 e2 e3
theorem tcd_0 {t : FieldType} (h : tcd t = 0) : t = .int := by cases t <;> first | rfl | (simp [tcd] at h; done)
theorem tcd_1 {t : FieldType} (h : tcd t = 1) : t = .long := by cases t <;> first | rfl | (simp [tcd] at h; done)
theorem tcd_3 {t : FieldType} (h : tcd t = 3) : t = .boolean := by cases t <;> first | rfl | (simp [tcd] at h; done)
theorem tcd_2 {t : FieldType} (h : tcd t = 2) (a : Nat) : narrow t (.ref a) = .ref a ∧ fits t (.ref a) = true := by cases t <;> first | exact ⟨rfl, rfl⟩ | (simp [tcd] at h; done)
theorem si_putfield (f : Nat) : SG l D cA base b0 t0 n → SI l D cA base b0 t0 n (.putfield f) := by
  intro ih k μ cs ls st h r h' hx pc hok p e R s m args below meth c H locs cells slots Q lsR C0 W0 S0 L0 f1 rc fin
  obtain ⟨o1, o2⟩ := ok2 hok rfl rfl
  obtain ⟨x, hd, hm, hlt, hfin⟩ := okPut o1
  obtain ⟨v, a, st', rfl, ⟨hk, hc, ha⟩, hx0⟩ := ptf_inv hx
  clear hx
  obtain ⟨j, rfl⟩ := st_own ha
  have hlt : f % 100 < (vT (f / 100)).2.2 := by rw [(vT_len _ hc).1]; exact hlt
  have htd := (vT_td _ hc (f % 100) hlt).1
  rw [f_split] at htd
  have hA : Aq base (base + j) := show base ≤ base + j by omega
  rcases hx0 with ⟨hf, y, rfl, hx⟩ | ⟨hf, y, rfl, hx⟩ | ⟨hf, y, rfl, hx⟩ | ⟨hf, y, rfl, hy, hx⟩
  · refine W_put (v := .int y) C0 W0 hd hm hc hk hlt hfin (tcd_0 (htd.trans hf)) rfl rfl fun H1 cell c1 c2 c3 c4 e1 z oq => ?_
    exact ih k μ cs ls _ _ r h' hx _ o2 p e R s m args below meth c H1 _ cells slots Q lsR C0 (wd_put W0 hc hk hlt c4 c1 c2 c3 rfl (fun _ hy _ => if_neg (fun q => hy q.1)) (fun _ _ _ => rfl) (fun _ _ _ => rfl) (fun i hi => rdF_sI (Or.inl hf) hi) e1 z oq) (S0.put z oq hA) L0 f1 rc fin
  · refine W_put (v := .long y) C0 W0 hd hm hc hk hlt hfin (tcd_1 (htd.trans hf)) rfl rfl fun H1 cell c1 c2 c3 c4 e1 z oq => ?_
    exact ih k μ cs ls _ _ r h' hx _ o2 p e R s m args below meth c H1 _ cells slots Q lsR C0 (wd_put W0 hc hk hlt c4 c1 c2 c3 rfl (fun _ _ _ => rfl) (fun _ hy _ => if_neg (fun q => hy q.1)) (fun _ _ _ => rfl) (fun i hi => rdF_sL hf hi) e1 z oq) (S0.put z oq hA) L0 f1 rc fin
  · have h2 := tcd_2 (htd.trans hf) (trA base b0 t0 y)
    refine W_put (v := .ref (trA base b0 t0 y)) C0 W0 hd hm hc hk hlt hfin rfl h2.1 h2.2 fun H1 cell c1 c2 c3 c4 e1 z oq => ?_
    exact ih k μ cs ls _ _ r h' hx _ o2 p e R s m args below meth c H1 _ cells slots Q lsR C0 (wd_put W0 hc hk hlt c4 c1 c2 c3 rfl (fun _ _ _ => rfl) (fun _ _ _ => rfl) (fun _ hy _ => if_neg (fun q => hy q.1)) (fun i hi => rdF_sR hf hi) e1 z oq) (S0.put z oq hA) L0 f1 rc fin
  · refine W_put (v := .int y) C0 W0 hd hm hc hk hlt hfin (tcd_3 (htd.trans hf)) (by rcases hy with rfl | rfl <;> decide) (by rcases hy with rfl | rfl <;> decide) fun H1 cell c1 c2 c3 c4 e1 z oq => ?_
    exact ih k μ cs ls _ _ r h' hx _ o2 p e R s m args below meth c H1 _ cells slots Q lsR C0 (wd_put W0 hc hk hlt c4 c1 c2 c3 rfl (fun _ hy _ => if_neg (fun q => hy q.1)) (fun _ _ _ => rfl) (fun _ _ _ => rfl) (fun i hi => rdF_sI (Or.inr hf) hi) e1 z oq) (S0.put z oq hA) L0 f1 rc fin
theorem si_getstatic (f : Nat) : SG l D cA base b0 t0 n → SI l D cA base b0 t0 n (.getstatic f) := by
  intro ih k μ cs ls st h r h' hx pc hok p e R s m args below meth c H locs cells slots Q lsR C0 W0 S0 L0 f1 rc fin
  obtain ⟨o1, o2⟩ := ok2 hok rfl rfl
  obtain ⟨x, hd, hm⟩ := okGs o1
  obtain ⟨cf, kf, fi, fd, a, cell, h1, h2, h3, h4, h5, h6, h7, h8⟩ := W0.2.2.1.2.2.2.2.1
  exact W.gets C0.1 C0.2.1 C0.2.2.2.1 (C0.2.2.2.2.2 _ (tb (gS_w _ hm) rfl)) h1 h2 h3 h4 h5 (fun e => by rw [e] at h6; cases h6) h7 rfl hd (ih k μ cs ls _ h r h' hx _ o2 p e R s m args below meth c H locs cells slots Q lsR C0 W0 S0 L0 f1 rc fin)
theorem si_objinit (f : Nat) : SG l D cA base b0 t0 n → SI l D cA base b0 t0 n (.invokespecial f) := by
  intro ih k μ cs ls st h r h' hx pc hok p e R s m args below meth c H locs cells slots Q lsR C0 W0 S0 L0 f1 rc fin
  obtain ⟨o1, o2⟩ := ok2 hok rfl rfl
  obtain ⟨x, hd, hm⟩ := okOi o1
  simp only [stp] at hx
  split at hx
  · split at hx
    · rename_i a st' hlen
      have hs := sum4 base b0 t0 st'
      exact W.objInit C0.1 C0.2.1 C0.2.2.2.1 (C0.2.2.2.2.2 _ (tb (oI_w _ hm) rfl)) (C0.2.2.2.2.2 _ (tb oI_w2.1 rfl)) (C0.2.2.2.2.2 _ (tb oI_w2.2 rfl)) rfl (show lsR.size = _ by rw [C0.2.2.1]; exact L0.2.choose_spec.1.1) rfl hd (by omega) (by show 2 * 0 + _ + 12 ≤ _; omega) (ih k μ cs ls _ h r h' hx _ o2 p e R s m args below meth c H locs cells slots Q lsR C0 W0 S0 L0 f1 rc fin)
    · cases hx
  · cases hx
end SIC
