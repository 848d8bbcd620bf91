/-! new cells; the copy of a row -/
section SID
variable {l : Launch} {D : va_G} {cA : Nat → ClassId} {base b0 t0 n : Nat} {h : MH} {s : State} {H : Heap}
theorem kd_nC (h : MH) (t n : Nat) : kd (nC h t n) h.1.length = t ∧ ln (nC h t n) h.1.length = n := by
  have e : (nC h t n).1.getD h.1.length (99, 0) = (t, n) := getD_app_r
  exact ⟨by unfold kd; rw [e], by unfold ln; rw [e]⟩
theorem nC_I (h : MH) (t n k : Nat) : gI (nC h t n) h.1.length k = 0 := if_pos rfl
theorem nC_L (h : MH) (t n k : Nat) : gL (nC h t n) h.1.length k = 0 := if_pos rfl
theorem nC_R (h : MH) (t n k : Nat) : gR (nC h t n) h.1.length k = .null := if_pos rfl
theorem fty_9 (f : Nat) : ¬ fty f = 9 := by
  have hall : ∀ l ∈ ftl, ∀ x ∈ l, ¬ x = 9 := by decide
  unfold fty
  rw [List.getD_eq_getElem?_getD, List.getD_eq_getElem?_getD]
  cases e : ftl[f / 100]? with
  | none => simp
  | some l =>
    cases e2 : l[f % 100]? with
    | none => simp [e2]
    | some x =>
      simp only [Option.getD_some, e2]
      exact hall l (List.mem_of_getElem? e) x (List.mem_of_getElem? e2)
theorem dft {t : FieldType} {f : Nat} (ht : tcd t = fty f) (h : MH) (tt n : Nat) : defaultValue t = trV base b0 t0 (rdF (nC h tt n) h.1.length f) := by
  unfold rdF
  cases t <;> (first | (have e : fty f = 0 := ht.symm; rw [e]; simp only [nC_I]; rfl) | (have e : fty f = 1 := ht.symm; rw [e]; simp only [nC_L]; rfl) | (have e : fty f = 2 := ht.symm; rw [e]; simp only [nC_R]; rfl) | (have e : fty f = 3 := ht.symm; rw [e]; simp only [nC_I]; rfl) | (have e : fty f = 9 := ht.symm; exact absurd e (fty_9 f)))
theorem room_new {a b c d : Nat} (h1 : a ≤ b) (h2 : b + 1 ≤ c) : d + (c - b) = d + 1 + (c - (b + 1)) := by omega
theorem si_new (ci : Nat) : SG l D cA base b0 t0 n → SI l D cA base b0 t0 n (.new ci) := by
  intro ih k μ cs ls st h r h' hx pc hok p e R s m args below meth c H locs cells slots Q lsR C0 W0 S0 L0 f1 rc fin
  obtain ⟨o1, o2⟩ := ok2 hok rfl rfl
  obtain ⟨x, hd, hm⟩ := okNew o1
  obtain ⟨hc, hx⟩ := nwo_inv hx
  have hg := grow _ _ _ _ _ _ _ _ _ hx
  have hlen : (nC h ci (flen.getD ci 0)).1.length = h.1.length + 1 := by simp [nC]
  have hsz := szH_nC h ci (flen.getD ci 0)
  rw [hlen, hsz] at hg
  have hts := C0.2.2.2.2.2
  have hl := vT_len _ hc
  have hKn := W0.1.1 ci _ (vT_get _ hc)
  obtain ⟨r1, r2, r3⟩ := W0.2.1
  refine W.newcK (n := flen.getD ci 0) (h := base + (h.1.length - 2)) C0.1 C0.2.1 C0.2.2.2.1 (hts _ (tb (cl_w _ hm) rfl)) (hts _ (tb (cl_i _ hm) rfl)) (hts _ (tb (cl_n _ hm) rfl)) rfl hd (by omega) (by omega) (C := cN ci) (cC := D.1 ci) (by rw [← hl.2.1]; exact hKn.2.1) (by omega) fun H1 kC hkC e1 z1 og => ?_
  have hW : Wd D cA base b0 t0 (nC h ci (flen.getD ci 0)) s H1 := by
    refine W0.push ci _ (by omega) (fun q hq => og q (by omega)) (Or.inl ?_)
    have e2 : h.1.length - 2 + 2 = h.1.length := by omega
    rw [e2, (kd_nC h ci (flen.getD ci 0)).1]
    refine ⟨hc, (u_born (vty ci) hts (vT_uw _ hc) hKn hkC e1 (vT_ty _ hc)).to (fun i hi => ?_)⟩
    show defaultValue (vty ci i) = fV base b0 t0 (nC h ci (flen.getD ci 0)) h.1.length i
    unfold fV
    rw [(kd_nC h ci (flen.getD ci 0)).1]
    exact dft (vT_td _ hc i hi).1 h ci _
  have hS : va_S (Aq base) s.heap H1 locs := ⟨by have := S0.1; omega, fun q g1 g2 => (og q (by have := S0.1; omega)).trans (S0.2.1 q g1 g2), S0.2.2⟩
  have c1 : cells + (h'.1.length - h.1.length) = cells + 1 + (h'.1.length - (nC h ci (flen.getD ci 0)).1.length) := by rw [hlen]; omega
  have c2 : slots + (szH h' - szH h) = slots + flen.getD ci 0 + (szH h' - szH (nC h ci (flen.getD ci 0))) := by rw [hsz]; omega
  rw [c1, c2] at rc fin
  have e3 : Value.ref (base + (h.1.length - 2)) = trV base b0 t0 (.ref h.1.length) := by
    have e4 : h.1.length = (h.1.length - 2) + 2 := by omega
    rw [e4]
    rfl
  have g := ih k μ cs ls _ _ r h' hx _ o2 p e R s m args below meth c H1 locs (cells + 1) (slots + flen.getD ci 0) Q lsR C0 hW hS L0 f1 rc fin
  rw [List.map_cons, ← e3] at g
  exact g
theorem ty_new (t : ArrayType) (ht : aty t ≤ 24) : 20 ≤ aty t ∧ (∃ i : Nat, (tysL cA)[i]? = some (cA (aty t), newarray.typeOf t)) ∧ Cond.arrayClass (newarray.typeOf t) ∈ lw_tbl ∧ componentBytes (newarray.typeOf t) ≤ 8 ∧ (∀ U : State, ∀ c : ClassId, va_RA U c (newarray.typeOf t) → U.vm.findClass ("[" ++ (newarray.typeOf t).toString) = some c) ∧ defaultValue (newarray.typeOf t) = (if aty t = 21 then .long 0 else .int 0) := by
  cases t
  · exact ⟨by decide, ⟨4, rfl⟩, ar_boolean, by decide, fun _ _ h => h, rfl⟩
  · exact absurd ht (by decide)
  · exact absurd ht (by decide)
  · exact absurd ht (by decide)
  · exact ⟨by decide, ⟨3, rfl⟩, ar_byte, by decide, fun _ _ h => h, rfl⟩
  · exact ⟨by decide, ⟨2, rfl⟩, ar_short, by decide, fun _ _ h => h, rfl⟩
  · exact ⟨by decide, ⟨0, rfl⟩, ar_int, by decide, fun _ _ h => h, rfl⟩
  · exact ⟨by decide, ⟨1, rfl⟩, ar_long, by decide, fun _ _ h => h, rfl⟩
theorem si_newarray (t : ArrayType) : SG l D cA base b0 t0 n → SI l D cA base b0 t0 n (.newarray t) := by
  intro ih k μ cs ls st h r h' hx pc hok p e R s m args below meth c H locs cells slots Q lsR C0 W0 S0 L0 f1 rc fin
  obtain ⟨o1, o2⟩ := ok2 hok rfl rfl
  obtain ⟨z, st', rfl, ⟨ht, hz0, hz1⟩, hx⟩ := nwa_inv hx
  obtain ⟨ht1, ⟨i, hi⟩, hw, hcb, hfi, hdf⟩ := ty_new (cA := cA) t ht
  have hg := grow _ _ _ _ _ _ _ _ _ hx
  have hlen : (nC h (aty t) z.toNatClampNeg).1.length = h.1.length + 1 := by simp [nC]
  have hsz := szH_nC h (aty t) z.toNatClampNeg
  rw [hlen, hsz] at hg
  have hts := C0.2.2.2.2.2
  obtain ⟨r1, r2, r3⟩ := W0.2.1
  refine va_newaK (h := base + (h.1.length - 2)) (atype := t) (N := z.toNatClampNeg) C0.1 C0.2.1 (hts _ (tb hw rfl)) rfl (okD o1 (fun _ _ => rfl)) rfl hz0 rfl ?_ (by omega) (by omega) (by omega) fun H1 cB e1 z1 og hAr hNm => ?_
  · have := Nat.mul_le_mul hz1 hcb
    omega
  have hcB : cB = cA (aty t) := Option.some.inj (hNm.symm.trans (hfi s _ (W0.1.2 i _ hi).2))
  have hW : Wd D cA base b0 t0 (nC h (aty t) z.toNatClampNeg) s H1 := by
    refine W0.push _ _ (by omega) (fun q hq => og q (by omega)) (Or.inr ?_)
    have e2 : h.1.length - 2 + 2 = h.1.length := by omega
    rw [e2, (kd_nC h (aty t) z.toNatClampNeg).1, (kd_nC h (aty t) z.toNatClampNeg).2]
    refine ⟨ht1, ht, ?_⟩
    rw [e1, hcB]
    congr 2
    funext y
    rw [hdf]
    unfold aV
    rw [(kd_nC h (aty t) z.toNatClampNeg).1, nC_I, nC_L]
  have hS : va_S (Aq base) s.heap H1 locs := ⟨by have := S0.1; omega, fun q g1 g2 => (og q (by have := S0.1; omega)).trans (S0.2.1 q g1 g2), S0.2.2⟩
  have c1 : cells + (h'.1.length - h.1.length) = cells + 1 + (h'.1.length - (nC h (aty t) z.toNatClampNeg).1.length) := by rw [hlen]; omega
  have c2 : slots + (szH h' - szH h) = slots + z.toNatClampNeg + (szH h' - szH (nC h (aty t) z.toNatClampNeg)) := by rw [hsz]; omega
  rw [c1, c2] at rc fin
  have e3 : Value.ref (base + (h.1.length - 2)) = trV base b0 t0 (.ref h.1.length) := by
    have e4 : h.1.length = (h.1.length - 2) + 2 := by omega
    rw [e4]
    rfl
  have g := ih k μ cs ls _ _ r h' hx _ o2 p e R s m args below meth c H1 locs (cells + 1) (slots + z.toNatClampNeg) Q lsR C0 hW hS L0 f1 rc fin
  rw [List.map_cons, ← e3] at g
  exact g
/-- System.arraycopy within one row of ints -/
theorem W_copy {p : Program} {e : Env} {R : Room} {m : MethodId} {args : Array Value} {below : List Frame} {meth : Method} {c : Code} {locs : List Loc} {cells slots : Nat} {Q : State → Prop} {ls : Array Slot} {pc : Nat} {rest : List Value} {cc : ByteArray} (hexec : p.tables.exec = Jvm.exec) (hb : c.code = cc) (hml : c.maxLocals = ls.size) {own : String} {index : Nat} (hown : s.vm.findClass own = some m.cls) (hlink : (Cond.methodLink own index arraycopyName).before args s = true) (hnat : (Cond.native arraycopyName).before args s = true) (hstat : (Cond.static arraycopyName).before args s = true) (hini : (Cond.initialized "java/lang/System").before args s = true)
    {a n0 : Nat} {c0 : ClassId} {f : Nat → Int32} (hc0 : H[a]? = some (vp_cell c0 (n0, .inl f))) (hAr : ArrOfT s c0 .int)
    {sp dp n : Int32} (h1 : ¬ sp < 0) (h2 : ¬ dp < 0) (h3 : ¬ n < 0) (h4 : sp.toNatClampNeg + n.toNatClampNeg ≤ n0) (h5 : dp.toNatClampNeg + n.toNatClampNeg ≤ n0)
    (hframes : 1 ≤ R.frames) (hlocals : (rest.map fun v => v.category).sum + (nativeFrameWords "java/lang/System" "arraycopy" 5 + 11) ≤ R.locals) (hdg : decode cc pc = .ok (.invokestatic index, 3))
    (kk : ∀ (H1 : Heap) (L : List Loc), H1[a]? = some (vp_cell c0 (n0, .inl (va_cpy f f sp.toNatClampNeg dp.toNatClampNeg n.toNatClampNeg))) → H1.size = H.size → (∀ q : Nat, q ≠ a → H1[q]? = H[q]?) → (∀ x ∈ L, x.base = a) → W p l e R s m args below meth c H1 (locs ++ L) cells slots Q (F0 m (pc + 3) ls rest)) : W p l e R s m args below meth c H locs cells slots Q (F0 m pc ls (.int n :: .int dp :: .ref a :: .int sp :: .ref a :: rest)) := by
  have nn : ∀ z : Int32, ¬ z < 0 → z.toInt = (z.toNatClampNeg : Int) := by
    intro z hz
    have hz0 : (0 : Int) ≤ z.toInt := by
      have := Int32.not_lt.mp hz
      simpa using Int32.le_iff_toInt_le.mp this
    show z.toInt = ((z.toInt.toNat : Nat) : Int)
    omega
  intro T hT X
  obtain ⟨-, k0, hk0, cm0, hkk0⟩ := hAr n0 (fun j => .int (f j))
  obtain ⟨vm', X', step⟩ := X.arraycopy hexec hown hlink hnat hstat hini (src := a) (dst := a) (cs := vp_cell c0 (n0, .inl f)) (cd := vp_cell c0 (n0, .inl f)) (srcPos := sp) (destPos := dp) (n := n) (by rw [hT]; exact hc0) (by rw [hT]; exact hc0)
    (fun _ h => by cases h) (fun _ h => by cases h) (fun h => by cases h) (fun h => by cases h) hk0 hk0 hkk0 hkk0 (by simp) h1 h2 h3
    (by rw [nn sp h1, nn n h3]; show ¬ _ > ((arrV c0 n0 (fun j => .int (f j))).slots.size : Int); rw [arrV_size]; omega)
    (by rw [nn dp h2, nn n h3]; show ¬ _ > ((arrV c0 n0 (fun j => .int (f j))).slots.size : Int); rw [arrV_size]; omega)
    (fun vm₁ _ i hi => by
      have e : (vp_cell c0 (n0, .inl f)).slots.getD (sp.toNatClampNeg + i) .null = .int (f (sp.toNatClampNeg + i)) := by
        show (arrV c0 n0 (fun j => .int (f j))).slots.getD _ _ = _
        rw [Array.getD_eq_getD_getElem?, arrV_read _ _ (by omega)]
        rfl
      refine ⟨?_, ?_⟩
      · rw [e]
        rfl
      · rw [e]
        exact trivial)
    (g := F0 m pc ls (.int n :: .int dp :: .ref a :: .int sp :: .ref a :: rest)) rfl (by rw [hml]) (rest := rest) rfl (by rw [hb]; exact hdg) hframes (by show 2 * 0 + _ + _ ≤ _; omega)
  have e1 : copied (vp_cell c0 (n0, .inl f)) (vp_cell c0 (n0, .inl f)) sp dp n = vp_cell c0 (n0, .inl (va_cpy f f sp.toNatClampNeg dp.toNatClampNeg n.toNatClampNeg)) := va_copied (fun z => .int z) c0 c0 f f h4
  rw [e1] at X' step
  have hl : a < H.size := (Array.getElem?_eq_some_iff.mp hc0).1
  have hheap : ((T.setVm vm').setCell a (vp_cell c0 (n0, .inl (va_cpy f f sp.toNatClampNeg dp.toNatClampNeg n.toNatClampNeg)))).heap = H.setIfInBounds a (vp_cell c0 (n0, .inl (va_cpy f f sp.toNatClampNeg dp.toNatClampNeg n.toNatClampNeg))) := by rw [← hT]; rfl
  have oq : ∀ q : Nat, q ≠ a → (H.setIfInBounds a (vp_cell c0 (n0, .inl (va_cpy f f sp.toNatClampNeg dp.toNatClampNeg n.toNatClampNeg))))[q]? = H[q]? := fun q hq => by simp [Array.getElem?_setIfInBounds, Ne.symm hq]
  obtain ⟨t, a1, b1⟩ := kk _ _ (by simp [Array.getElem?_setIfInBounds, hl]) (by simp) oq (fun q hq => by
      obtain ⟨z, -, hz⟩ := List.mem_map.mp hq
      rw [← hz]) _ hheap X'
  exact ⟨t, step t a1, b1⟩
theorem si_copy (f : Nat) : SG l D cA base b0 t0 n → SI l D cA base b0 t0 n (.invokestatic f) := by
  intro ih k μ cs ls st h r h' hx pc hok p e R s m args below meth c H locs cells slots Q lsR C0 W0 S0 L0 f1 rc fin
  obtain ⟨o1, o2⟩ := ok2 hok rfl rfl
  obtain ⟨x, hd, hm⟩ := okAc o1
  obtain ⟨z, dp, b, sp, a, st', rfl, ⟨⟨ha, hab, hk, hlen⟩, h1, h2, h3, h4, h5⟩, hx0⟩ := acp_inv hx
  clear hx
  have hx := hx0
  clear hx0
  subst hab
  obtain ⟨j, rfl⟩ := st_own ha
  have hs := sum4 base b0 t0 st'
  have hts := C0.2.2.2.2.2
  have hcell := arr_own W0 (j := j) (by omega) (by omega)
  have hc0 : H[base + j]? = some (vp_cell (cA 20) (ln h (j + 2), .inl (gI h (j + 2)))) := by
    rw [hcell, vp_cell_i, hk]
    congr 2
    funext y
    exact aV_i (by omega)
  refine W_copy C0.1 C0.2.1 (show _ = lsR.size by rw [C0.2.2.1]; exact L0.2.choose_spec.1.1.symm) C0.2.2.2.1 (hts _ (tb (aC_w _ hm) rfl)) (hts _ (tb aC_w2.1 rfl)) (hts _ (tb aC_w2.2.1 rfl)) (hts _ (tb aC_w2.2.2 rfl)) hc0 (W0.1.2 0 _ rfl).1 h1 h2 h3 h4 h5 (by omega) (by show _ + (7 + 11) ≤ _; omega) hd fun H1 L e1 z1 oq hL => ?_
  have hA : base ≤ base + j := by omega
  refine ih k μ cs ls _ _ r h' hx _ o2 p e R s m args below meth c H1 _ cells slots Q lsR C0 (W0.upd j rfl (fun y hy k => if_neg hy) (fun _ _ _ => rfl) (fun _ _ _ => rfl) z1 oq (Or.inr ⟨?_, ?_, ?_⟩)) ⟨by rw [z1]; exact S0.1, fun q g1 g2 => (oq q (fun e => g2 (by rw [e]; exact hA))).trans (S0.2.1 q g1 g2), fun q hq => ?_⟩ L0 f1 rc fin
  · show 20 ≤ kd h (j + 2)
    omega
  · show kd h (j + 2) ≤ 24
    omega
  · rw [e1, vp_cell_i]
    show _ = some (arrV (cA (kd h (j + 2))) (ln h (j + 2)) (aV (cpI h (j + 2) sp.toNatClampNeg (j + 2) dp.toNatClampNeg z.toNatClampNeg) (j + 2)))
    rw [hk]
    congr 2
    funext y
    rw [aV_i (h := cpI h (j + 2) sp.toNatClampNeg (j + 2) dp.toNatClampNeg z.toNatClampNeg) (show ¬ kd h (j + 2) = 21 by omega)]
    congr 1
    exact (if_pos rfl).symm
  · rcases List.mem_append.mp hq with q1 | q1
    · exact S0.2.2 q q1
    · rw [hL q q1]; exact hA
end SID
