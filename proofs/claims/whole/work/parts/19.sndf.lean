/-! calls -/
theorem lb0 : ∀ k ∈ mks, (lbl k).contains 0 = true := by decide +kernel
theorem mu2t : ∀ k ∈ mks, 2 ≤ (mkl.getD k (0, 0)).2 := by decide +kernel
theorem mu2 {k : Nat} (hk : k ∈ mks) (a : List Value) : 2 ≤ mu k a := by
  have h := mu2t k hk
  unfold mu
  split
  · rename_i r e; rw [e] at h; exact h
  · rename_i r e; rw [e] at h; exact Nat.le_trans h (Nat.le_add_right _ _)
  · rename_i r x e; rw [e] at h; exact Nat.le_trans h (Nat.le_add_right _ _)
theorem lcs_mem (base b0 t0 : Nat) : ∀ (a : List Value) (o i : Nat) (v : Value), (lcs a)[i]? = some (some v) → (o + i, trV base b0 t0 v) ∈ lv_args o (a.map (trV base b0 t0))
  | [], o, i, v, h => by simp [lcs] at h
  | w :: a, o, i, v, h => by
    by_cases hw : w.category = 2
    · have e : lcs (w :: a) = some w :: none :: lcs a := by cases w <;> first | rfl | (simp [Value.category] at hw; done)
      have e2 : lv_args o ((w :: a).map (trV base b0 t0)) = (o, trV base b0 t0 w) :: lv_args (o + 2) (a.map (trV base b0 t0)) := by
        show (o, _) :: lv_args (if (trV base b0 t0 w).category = 2 then o + 2 else o + 1) _ = _
        rw [trV_cat, if_pos hw]
      rw [e] at h
      rw [e2]
      match i, h with
      | 0, h =>
        simp at h
        rw [h]
        exact List.mem_cons_self
      | 1, h => simp at h
      | i + 2, h =>
        have h : (lcs a)[i]? = some (some v) := by simpa using h
        have g := lcs_mem base b0 t0 a (o + 2) i v h
        rw [show o + (i + 2) = o + 2 + i by omega]
        exact List.mem_cons_of_mem _ g
    · have e : lcs (w :: a) = some w :: lcs a := by cases w <;> first | rfl | (simp [Value.category] at hw; done)
      have e2 : lv_args o ((w :: a).map (trV base b0 t0)) = (o, trV base b0 t0 w) :: lv_args (o + 1) (a.map (trV base b0 t0)) := by
        show (o, _) :: lv_args (if (trV base b0 t0 w).category = 2 then o + 2 else o + 1) _ = _
        rw [trV_cat, if_neg hw]
      rw [e] at h
      rw [e2]
      match i, h with
      | 0, h =>
        simp at h
        rw [h]
        exact List.mem_cons_self
      | i + 1, h =>
        have h : (lcs a)[i]? = some (some v) := by simpa using h
        have g := lcs_mem base b0 t0 a (o + 1) i v h
        rw [show o + (i + 1) = o + 1 + i by omega]
        exact List.mem_cons_of_mem _ g
theorem lg_len (base b0 t0 : Nat) : ∀ (a : List Value), (lg_sl (a.map (trV base b0 t0))).length = (lcs a).length
  | [] => rfl
  | w :: a => by
    have ih := lg_len base b0 t0 a
    have e : lg_sl ((w :: a).map (trV base b0 t0)) = (if (trV base b0 t0 w).category = 2 then [Slot.val (trV base b0 t0 w), .second] else [.val (trV base b0 t0 w)]) ++ lg_sl (a.map (trV base b0 t0)) := by
      simp [lg_sl]
    rw [e, trV_cat, List.length_append, ih]
    cases w <;> simp [Value.category, lcs] <;> omega
theorem ent_LR {base b0 t0 k : Nat} {a : List Value} {lsR : Array Slot} (hl : (lcs a).length ≤ mX k) (hen : lv_has lsR (mX k) (lv_args 0 (a.map (trV base b0 t0)))) : LR base b0 t0 k (ent k a) lsR := by
  refine ⟨by unfold ent; rw [List.length_append, List.length_replicate]; omega, _, hen, fun i v h => ?_⟩
  unfold ent at h
  by_cases hi : i < (lcs a).length
  · rw [List.getElem?_append_left hi] at h
    have g := lcs_mem base b0 t0 a 0 i v h
    rw [Nat.zero_add] at g
    exact g
  · rw [List.getElem?_append_right (by omega), List.getElem?_replicate] at h
    split at h <;> cases h
def QQ (D : va_G) (cA : Nat → ClassId) (base b0 t0 : Nat) (r : Option Value) (h' : MH) : Array Value → State → Outcome → State → Prop := fun _ st o t =>
  o = .returned (r.map (trV base b0 t0)) ∧ Wd D cA base b0 t0 h' t t.heap ∧ st.heap.size ≤ t.heap.size ∧ ∀ q, q < base → t.heap[q]? = st.heap[q]?
section SIF
variable {l : Launch} {D : va_G} {cA : Nat → ClassId} {base b0 t0 n : Nat} {h : MH} {s U : State} {H : Heap}
theorem Wd.alike (hvm : s.vm.Alike U.vm) (hN : Nst U) (hW : Wd D cA base b0 t0 h s H) : Wd D cA base b0 t0 h U H := by
  obtain ⟨w1, w2, ⟨k0, k1, hb, ⟨scr, x1, x2, x3⟩, hz, ht⟩, -⟩ := hW
  exact ⟨va_K.moved hvm w1, w2, ⟨k0, k1, hb, ⟨scr, x1, State.isArrayOf_alike hvm x2, x3⟩, hz.moved hvm, ht.moved hvm⟩, hN⟩
theorem Wd.warm (hw : s.WarmedH U.vm) (hW : Wd D cA base b0 t0 h s H) : Wd D cA base b0 t0 h U H := hW.alike hw.alike (fun r hr => va_Nw.warmM hw (hW.2.2.2 r hr))
theorem Met.ofWF {y : MethodName} {ws ws' : List Cond} {rm : Room} {Pc : Array Value → State → Prop} {Qc : Array Value → State → Outcome → State → Prop} {mc ms : Nat} {free : Addr → Prop} {cc : ByteArray} {maxL : Nat} {ret : Option FieldType}
    (hy : plainFor y = true) (hw : ws = Cond.code y cc maxL ret :: ws')
    (body : ∀ p e s m args below meth c s₁, BodyLoose p l y (headSpec ws rm) cc maxL ret e s m args below meth c s₁ → c.maxLocals = maxL → Pc args s →
      W p l e (headSpec ws rm).room s m args below meth c s.heap [] 0 0 (MQ below Qc args s mc ms free) (entryFrame m args maxL)) : Met l y ws rm Pc Qc mc ms free := by
  refine MetFree.of_bodySF (code := cc) (maxLocals := maxL) (ret := ret) hy ?_ ?_
  · intro args s m h hn
    obtain ⟨meth, c, h1, h2, h3, h4, h5, h6, -, -⟩ := Cond.code_spec hn (atoms_spec (ws := ws) h _ (by rw [hw]; exact List.mem_cons_self))
    exact ⟨meth, c, h1, h2, h3, h4, h5, h6⟩
  · intro p e s m args below meth c s₁ B hml hP _
    have hh0 : s₁.heap = s.heap := by rw [B.state]; rfl
    obtain ⟨t, a1, o, b1, b2, b3⟩ := body p e s m args below meth c s₁ B hml hP s₁ hh0 (Stand.of_body B)
    exact ⟨t, o, a1, b1, b2, ⟨b3.1, b3.2⟩⟩
theorem met_of (ih : SG l D cA base b0 t0 n) {k' : Nat} {a : List Value} {h h1 : MH} {r1 : Option Value} (hx : xec n k' (mu k' a) (blk k' 0) (ent k' a) [] h = some (r1, h1)) (hk : k' ∈ mks) (hl : (lcs a).length ≤ mX k') :
    Met l (mY k') (cdW k' :: TB) { frames := mu k' a, cells := h1.1.length - h.1.length, slots := szH h1 - szH h, locals := 64 * mu k' a } (va_Pc (a.map (trV base b0 t0)) (fun U => Wd D cA base b0 t0 h U U.heap)) (QQ D cA base b0 t0 r1 h1) (h1.1.length - h.1.length) (szH h1 - szH h) (Aq base) := by
  have hp := mk_p k' hk
  refine Met.ofWF (cc := mB k') (maxL := mX k') (ret := mR k') hp.1 rfl ?_
  intro p e s m args below meth c s₁ B hml hv
  obtain ⟨rfl, hW⟩ := hv
  have hts := atoms_spec (ws := cdW k' :: TB) B.pre
  have hown : s.vm.findClass (cN (mC k')) = some m.cls := by rw [← hp.2.2.2.2.2]; exact findClass_of_methodNamed B.named
  have hnm := (name_of_methodNamed B.named B.method).1
  have hbs : base ≤ s.heap.size := by obtain ⟨a, b, -⟩ := hW.2.1; omega
  have hen := lv_entry (a.map (trV base b0 t0)) (n := mX k') (by rw [lg_len]; exact hl)
  rw [lg_entry_eq]
  generalize (lg_sl (a.map (trV base b0 t0)) ++ List.replicate (mX k' - (lg_sl (a.map (trV base b0 t0))).length) Slot.unset).toArray = lsR at hen ⊢
  refine ih k' (mu k' a) (blk k' 0) (ent k' a) [] h r1 h1 hx 0 (okAll k' 0 (List.contains_iff_mem.mp (lb0 k' hk))) p e _ s m _ below meth c s.heap [] 0 0 _ lsR ⟨B.exec, B.bytes, hml, hown, fun q => hnm.trans q, fun w hw => hts w (List.mem_cons_of_mem _ hw)⟩ hW va_S.rf (ent_LR hl hen) ⟨mu2 hk a, Nat.le_refl _, Nat.le_refl _⟩ ⟨by rw [Nat.zero_add]; exact Nat.le_refl _, by rw [Nat.zero_add]; exact Nat.le_refl _⟩ ?_
  intro H' locs' pc' lsR' st' hR hW' hS'
  rw [Nat.zero_add, Nat.zero_add]
  have hq : ∀ (v : Option Value), v = r1.map (trV base b0 t0) → ∀ t : State, t.heap = H' → s.WarmedH t.vm → QQ D cA base b0 t0 r1 h1 (a.map (trV base b0 t0)).toArray s (.returned v) t := by
    intro v hv t ht hw
    refine ⟨by rw [hv], by rw [ht]; exact hW'.warm hw, by rw [ht]; exact hS'.1, fun q hq => ?_⟩
    rw [ht]
    exact hS'.2.1 q (by omega) (show ¬ base ≤ q by omega)
  have hlk := B.notSynchronized
  rcases hR with ⟨x, ty, hd, rfl, rfl, hr, hn⟩ | ⟨x, hd, rfl, rfl, hr⟩ | ⟨x, hd, rfl, rfl, hr⟩ | ⟨hd, rfl, rfl, hr⟩
  · exact W.zret B.exec B.bytes (B.returns.trans hr) hn (hq _ rfl) (fun q hq => hS'.2.2 q hq) hd hlk
  · exact W.lret B.exec B.bytes (B.returns.trans hr) (hq _ rfl) (fun q hq => hS'.2.2 q hq) hd hlk
  · exact W.aret B.exec B.bytes (B.returns.trans hr) (Or.inl ⟨_, rfl⟩) (Or.inr ⟨_, rfl⟩) (hq _ rfl) (fun q hq => hS'.2.2 q hq) hd hlk
  · exact W.vret B.exec B.bytes (B.returns.trans hr) (hq _ rfl) (fun q hq => hS'.2.2 q hq) hd hlk
theorem W_after {p : Program} {e : Env} {R : Room} {m : MethodId} {args : Array Value} {below : List Frame} {meth : Method} {c : Code} {locs : List Loc} {cells slots mc ms : Nat} {Q : State → Prop} {lsR : Array Slot} {pc : Nat} {st0 rest : List Value} {r1 : Option Value} {h1 : MH} {a : Array Value}
    (hr : va_Run p l e R s m args below meth c H locs cells slots mc ms (F0 m pc lsR st0) rest (QQ D cA base b0 t0 r1 h1 a) (Aq base)) (S0 : va_S (Aq base) s.heap H locs) (hN : Nst s)
    (kk : ∀ (H1 : Heap) (locs1 : List Loc), Wd D cA base b0 t0 h1 s H1 → va_S (Aq base) s.heap H1 locs1 → W p l e R s m args below meth c H1 locs1 (cells + mc) (slots + ms) Q (F0 m (pc + 3) lsR ((r1.map (trV base b0 t0)).toList ++ rest))) : W p l e R s m args below meth c H locs cells slots Q (F0 m pc lsR st0) := by
  intro T hT X
  obtain ⟨v, st₀, t, T', L, h0, X', hL, e1, e2, ⟨ho, hW, hz, hq⟩, st⟩ := hr T hT X
  have hv : v = r1.map (trV base b0 t0) := Outcome.returned.inj ho
  subst hv
  have hal : s.vm.Alike t.vm := by rw [← e2]; exact X'.warmed.alike
  have hW1 : Wd D cA base b0 t0 h1 s T'.heap := by rw [e1]; exact hW.alike hal.symm hN
  have hS1 : va_S (Aq base) s.heap T'.heap (locs ++ L) := by
    refine ⟨by rw [e1]; rw [h0] at hz; exact Nat.le_trans S0.1 hz, fun q g1 g2 => ?_, fun q g => ?_⟩
    · rw [e1, hq q (Nat.lt_of_not_le g2), h0]
      exact S0.2.1 q g1 g2
    · rcases List.mem_append.mp g with g | g
      · exact S0.2.2 q g
      · exact hL q g
  obtain ⟨t2, a1, b1⟩ := kk T'.heap (locs ++ L) hW1 hS1 T' rfl X'
  exact ⟨t2, st t2 a1, b1⟩
theorem okCal {k pc k' n' : Nat} (h : okI k pc (.invokeinterface k' n') = true) : n' = mnl.getD k' 99 ∧ ((∃ x, decode (mB k) pc = .ok (.invokevirtual x, 3) ∧ (mC k, x, k') ∈ cV) ∨ (∃ x, decode (mB k) pc = .ok (.invokestatic x, 3) ∧ (mC k, x, k') ∈ cS) ∨ (∃ x, decode (mB k) pc = .ok (.invokespecial x, 3) ∧ ((mC k, x, k') ∈ cI ∨ (mC k, x, k') ∈ cM))) := by
  obtain ⟨raw, len, e, h⟩ := okT h
  simp only [okR, Bool.and_eq_true, beq_iff_eq] at h
  obtain ⟨h1, rfl, h⟩ := h
  refine ⟨h1, ?_⟩
  split at h
  · exact Or.inl ⟨_, e, List.contains_iff_mem.mp h⟩
  · exact Or.inr (Or.inl ⟨_, e, List.contains_iff_mem.mp h⟩)
  · rw [Bool.or_eq_true] at h
    exact Or.inr (Or.inr ⟨_, e, h.imp List.contains_iff_mem.mp List.contains_iff_mem.mp⟩)
  · cases h
theorem goodTB {ws : List Cond} (h : ∀ w ∈ ws, w ∈ TB) : GoodIn TB ws := fun w hw => ⟨h w hw, good_of_word (List.mem_filter.mp (h w hw)).2⟩
theorem cd_in {k : Nat} (hk : k ∈ mks) : ∀ w ∈ cdW k :: TB, w ∈ TB := fun w hw => (List.mem_cons.mp hw).elim (fun e => by rw [e]; exact tb (mk_w k hk) rfl) id
theorem blind {a : List Value} : FrameBlind (va_Pc (a.map (trV base b0 t0)) (fun U => Wd D cA base b0 t0 h U U.heap)) := fun _ V g mk q => ⟨q.1, Wd.warm (s := V) (U := V.calling g mk _) (State.WarmedH.refl V) q.2⟩
theorem prm {k' q : Nat} {o : Option Nat} (hd : (parseMethodDescriptor (mY k').desc).map (fun d => d.parameters.length + (if o.isSome then 1 else 0)) = some (q + (if o.isSome then 1 else 0))) : (parseMethodDescriptor (mY k').desc).map (fun d => d.parameters.length) = some q := by
  cases e : parseMethodDescriptor (mY k').desc with
  | none => rw [e] at hd; cases hd
  | some d =>
    rw [e] at hd
    have g : d.parameters.length + (if o.isSome then 1 else 0) = q + (if o.isSome then 1 else 0) := Option.some.inj hd
    have g2 := Nat.add_right_cancel g
    rw [← g2]
    rfl
end SIF
