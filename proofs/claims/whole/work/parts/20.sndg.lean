/-! the row of a call, and all of it -/
section SIG
variable {l : Launch} {D : va_G} {cA : Nat → ClassId} {base b0 t0 n : Nat}
theorem psh_map (base b0 t0 : Nat) (r : Option Value) (st : List Value) : (r.map (trV base b0 t0)).toList ++ st.map (trV base b0 t0) = (psh r st).map (trV base b0 t0) := by
  cases r <;> rfl
theorem rcv_inv {k c : Nat} {a : List Value} {h : MH} (hm : mrc k = some c) (hr : rcv k a h = true) : ∃ y as, a = .ref y :: as ∧ kd h y = c ∧ 2 ≤ y ∧ c < 13 := by
  unfold rcv at hr
  rw [hm] at hr
  cases a with
  | nil => exact Bool.noConfusion (show false = true from hr)
  | cons v as => cases v <;> first | exact ⟨_, _, rfl, of_decide_eq_true hr⟩ | exact Bool.noConfusion (show false = true from hr)
section ABS
variable {p : Program} {e : Env} {R : Room} {s : State} {m : MethodId} {args : Array Value} {below : List Frame} {meth : Method} {c : Code} {H : Heap} {locs : List Loc} {cells slots mc ms mx fr : Nat} {g : JFrame} {As rest : List Value} {Y : MethodName} {cc bt : ByteArray} {nL x : Nat} {ret : Option FieldType} {own : String} {b : Addr} {Pc : Array Value → State → Prop} {Qc : Array Value → State → Outcome → State → Prop} {free : Addr → Prop}
theorem runV_abs (hS : CallFix p m c cc nL s args TB own) (M : Met l Y (Cond.code Y bt mx ret :: TB) { frames := fr, cells := mc, slots := ms, locals := 64 * fr } Pc Qc mc ms free) (hw : Cond.code Y bt mx ret ∈ TB) (w1 : Cond.methodLink own x Y ∈ TB) (w2 : Cond.instanceMethod Y ∈ TB) (w3 : Cond.selects Y.cls Y Y ∈ TB) (w4 : Cond.initialized Y.cls ∈ TB)
    (hd : Y.cls ≠ "java/lang/invoke/MethodHandle" ∧ Y.cls ≠ "java/lang/invoke/VarHandle" ∧ (parseMethodDescriptor Y.desc).map (fun d => d.parameters.length) = some As.length) (hR : fr + 1 ≤ R.frames ∧ 8 + (mx + 11) + 64 * fr ≤ R.locals) (hp : PreV s H Y.cls b Pc As)
    (hg : g.method = m) (hsize : g.locals.size = nL) (hstack : g.stack = As.reverse ++ .ref b :: rest) (hW : 2 * g.monitorRoom + (rest.map fun v => v.category).sum ≤ 8) (hdg : decode cc g.pc = .ok (.invokevirtual x, 3)) (hf : cells + mc ≤ R.cells ∧ slots + ms ≤ R.slots) :
    va_Run p l e R s m args below meth c H locs cells slots mc ms g rest (Qc (Value.ref b :: As).toArray) (free) := by
  refine va_runV hS M (cwV (C := Y.cls) As.length hS.2.2.2.2 (goodTB fun w h => ?_) rfl rfl rfl ⟨rfl, hd⟩ hR) hp hg rfl hsize hstack hW hdg hf
  rcases List.mem_append.mp h with h | h
  · simp only [List.mem_cons, List.not_mem_nil, or_false] at h
    rcases h with rfl | rfl | rfl | rfl
    · exact w1
    · exact w2
    · exact w3
    · exact w4
  · exact (List.mem_cons.mp h).elim (fun e => by rw [e]; exact hw) id
theorem runS_abs (hS : CallFix p m c cc nL s args TB own) (M : Met l Y (Cond.code Y bt mx ret :: TB) { frames := fr, cells := mc, slots := ms, locals := 64 * fr } Pc Qc mc ms free) (hw : Cond.code Y bt mx ret ∈ TB) (w1 : Cond.methodLink own x Y ∈ TB) (w2 : Cond.static Y ∈ TB) (w4 : Cond.initialized Y.cls ∈ TB)
    (hd : Y.cls ≠ "java/lang/invoke/MethodHandle" ∧ Y.cls ≠ "java/lang/invoke/VarHandle" ∧ (parseMethodDescriptor Y.desc).map (fun d => d.parameters.length) = some As.length) (hR : fr + 1 ≤ R.frames ∧ 8 + (mx + 11) + 64 * fr ≤ R.locals) (hp : PreS s H Pc As)
    (hg : g.method = m) (hsize : g.locals.size = nL) (hstack : g.stack = As.reverse ++ rest) (hW : 2 * g.monitorRoom + (rest.map fun v => v.category).sum ≤ 8) (hdg : decode cc g.pc = .ok (.invokestatic x, 3)) (hf : cells + mc ≤ R.cells ∧ slots + ms ≤ R.slots) :
    va_Run p l e R s m args below meth c H locs cells slots mc ms g rest (Qc As.toArray) (free) := by
  refine va_runS hS M (va_cwS As.length hS.2.2.2.2 (goodTB fun w h => ?_) rfl rfl rfl hd hR) hp hg rfl hsize hstack hW hdg hf
  rcases List.mem_append.mp h with h | h
  · simp only [List.mem_cons, List.not_mem_nil, or_false] at h
    rcases h with rfl | rfl | rfl
    · exact w1
    · exact w2
    · exact w4
  · exact (List.mem_cons.mp h).elim (fun e => by rw [e]; exact hw) id
theorem runI_abs (hS : CallFix p m c cc nL s args TB own) (M : Met l Y (Cond.code Y bt mx none :: TB) { frames := fr, cells := mc, slots := ms, locals := 64 * fr } Pc Qc mc ms free) (hw : Cond.code Y bt mx none ∈ TB) (w1 : Cond.methodLink own x Y ∈ TB) (w2 : Cond.instanceMethod Y ∈ TB) (w4 : Cond.initialized Y.cls ∈ TB) (hn : Y.name = "<init>")
    (hd : Y.cls ≠ "java/lang/invoke/MethodHandle" ∧ Y.cls ≠ "java/lang/invoke/VarHandle" ∧ (parseMethodDescriptor Y.desc).map (fun d => d.parameters.length) = some As.length) (hR : fr + 1 ≤ R.frames ∧ 8 + (mx + 11) + 64 * fr ≤ R.locals) (hp : PreS s H Pc (.ref b :: As))
    (hg : g.method = m) (hsize : g.locals.size = nL) (hstack : g.stack = As.reverse ++ .ref b :: rest) (hW : 2 * g.monitorRoom + (rest.map fun v => v.category).sum ≤ 8) (hdg : decode cc g.pc = .ok (.invokespecial x, 3)) (hf : cells + mc ≤ R.cells ∧ slots + ms ≤ R.slots) :
    va_Run p l e R s m args below meth c H locs cells slots mc ms g rest (Qc (Value.ref b :: As).toArray) (free) := by
  have hts := hS.2.2.2.2
  exact va_runI hS M (cwI As.length hts (goodTB fun w h => (List.mem_cons.mp h).elim (fun e => by rw [e]; exact hw) id) rfl rfl rfl (hts _ w4) (hts _ w1) (hts _ w2) hn hd hR) hp hg rfl hsize hstack hW hdg hf
theorem runN_abs (hS : CallFix p m c cc nL s args TB own) (M : Met l Y (Cond.code Y bt mx none :: TB) { frames := fr, cells := mc, slots := ms, locals := 64 * fr } Pc Qc mc ms free) (hw : Cond.code Y bt mx none ∈ TB) (w1 : va_Nw (Cond.methodLinkNest own x Y "GraftedLaws") s) (w2 : Cond.instanceMethod Y ∈ TB) (w4 : Cond.initialized Y.cls ∈ TB) (hn : Y.name = "<init>")
    (hd : Y.cls ≠ "java/lang/invoke/MethodHandle" ∧ Y.cls ≠ "java/lang/invoke/VarHandle" ∧ (parseMethodDescriptor Y.desc).map (fun d => d.parameters.length) = some As.length) (hR : fr + 1 ≤ R.frames ∧ 8 + (mx + 11) + 64 * fr ≤ R.locals) (hp : PreS s H Pc (.ref b :: As))
    (hg : g.method = m) (hsize : g.locals.size = nL) (hstack : g.stack = As.reverse ++ .ref b :: rest) (hW : 2 * g.monitorRoom + (rest.map fun v => v.category).sum ≤ 8) (hdg : decode cc g.pc = .ok (.invokespecial x, 3)) (hf : cells + mc ≤ R.cells ∧ slots + ms ≤ R.slots) :
    va_Run p l e R s m args below meth c H locs cells slots mc ms g rest (Qc (Value.ref b :: As).toArray) (free) := by
  have hts := hS.2.2.2.2
  exact va_runIN hS M ⟨va_cnB As.length hts (goodTB fun w h => (List.mem_cons.mp h).elim (fun e => by rw [e]; exact hw) id) rfl rfl rfl w1 (hts _ w4) hd hR, hn, hts _ w2⟩ hp hg rfl hsize hstack hW hdg hf
end ABS
theorem cV_c {a x k : Nat} (h : (a, x, k) ∈ cV) : Cond.methodLink (cN a) x (mY k) ∈ TB ∧ Cond.instanceMethod (mY k) ∈ TB ∧ Cond.selects (mY k).cls (mY k) (mY k) ∈ TB ∧ Cond.initialized (mY k).cls ∈ TB ∧ mrc k = some (mC k) ∧ mC k < 13 ∧ k ∈ mks :=
  ⟨tb (cV_w _ h) rfl, tb (cV_i _ h) rfl, tb (cV_s _ h) rfl, tb (cV_n _ h) rfl, mk_m _ h⟩
theorem cS_c {a x k : Nat} (h : (a, x, k) ∈ cS) : Cond.methodLink (cN a) x (mY k) ∈ TB ∧ Cond.static (mY k) ∈ TB ∧ Cond.initialized (mY k).cls ∈ TB ∧ mrc k = none ∧ k ∈ mks :=
  ⟨tb (cS_w _ h) rfl, tb (cS_s _ h) rfl, tb (cS_n _ h) rfl, mk_s _ h⟩
theorem cI_c {a x k : Nat} (h : (a, x, k) ∈ cI) : Cond.methodLink (cN a) x (mY k) ∈ TB ∧ Cond.instanceMethod (mY k) ∈ TB ∧ Cond.initialized (mY k).cls ∈ TB ∧ (mrc k).isSome = true ∧ (mY k).name = "<init>" ∧ mR k = none ∧ k ∈ mks :=
  ⟨tb (cI_w _ h) rfl, tb (cI_i _ h) rfl, tb (cI_n _ h) rfl, mk_i _ h⟩
theorem cM_c {a x k : Nat} (h : (a, x, k) ∈ cM) : Cond.instanceMethod (mY k) ∈ TB ∧ Cond.initialized (mY k).cls ∈ TB ∧ (mrc k).isSome = true ∧ (mY k).name = "<init>" ∧ mR k = none ∧ k ∈ mks :=
  ⟨tb (cM_i _ h) rfl, tb (cM_n _ h) rfl, mk_n _ h⟩
theorem Nst_c {s : State} (hN : Nst s) {a x k : Nat} (h : (a, x, k) ∈ cM) : va_Nw (Cond.methodLinkNest (cN a) x (mY k) "GraftedLaws") s := hN _ h
theorem mk_c {k : Nat} (h : k ∈ mks) : Cond.code (mY k) (mB k) (mX k) (mR k) ∈ TB ∧ mX k ≤ 12 := ⟨tb (mk_w k h) rfl, (mk_p k h).2.2.2.2.1⟩
/-- the call itself, whatever its kind: from the run of the callee to the caller's next instruction -/
theorem call_all {p : Program} {e : Env} {R : Room} {s : State} {m : MethodId} {args : Array Value} {below : List Frame} {meth : Method} {c : Code} {H : Heap} {locs : List Loc} {cells slots : Nat} {lsR : Array Slot} {k k' pc μ : Nat} {a rest : List Value} {h h1 : MH} {r1 : Option Value}
    (ih : SG l D cA base b0 t0 n) (C0 : CX k p s m args meth c) (W0 : Wd D cA base b0 t0 h s H) (hsz : lsR.size = mX k) (f1 : 2 ≤ μ ∧ μ ≤ R.frames ∧ 64 * μ ≤ R.locals)
    (hx1 : xec n k' (mu k' a) (blk k' 0) (ent k' a) [] h = some (r1, h1)) (hc : okC k' a μ h) (hroom : cells + (h1.1.length - h.1.length) ≤ R.cells ∧ slots + (szH h1 - szH h) ≤ R.slots) (hlen : rest.length ≤ 4)
    (hcal : (∃ x, decode (mB k) pc = .ok (.invokevirtual x, 3) ∧ (mC k, x, k') ∈ cV) ∨ (∃ x, decode (mB k) pc = .ok (.invokestatic x, 3) ∧ (mC k, x, k') ∈ cS) ∨ (∃ x, decode (mB k) pc = .ok (.invokespecial x, 3) ∧ ((mC k, x, k') ∈ cI ∨ (mC k, x, k') ∈ cM))) :
    va_Run p l e R s m args below meth c H locs cells slots (h1.1.length - h.1.length) (szH h1 - szH h) (F0 m pc lsR ((a.map (trV base b0 t0)).reverse ++ rest.map (trV base b0 t0))) (rest.map (trV base b0 t0)) (QQ D cA base b0 t0 r1 h1 (a.map (trV base b0 t0)).toArray) (Aq base) := by
  obtain ⟨c1, c2, c3, c4, c5⟩ := hc
  have hsum := sum4 base b0 t0 rest
  have hW8 : 2 * (F0 m pc lsR ((a.map (trV base b0 t0)).reverse ++ rest.map (trV base b0 t0))).monitorRoom + ((rest.map (trV base b0 t0)).map fun v => v.category).sum ≤ 8 := by
    show 2 * 0 + _ ≤ 8
    omega
  have hS : CallFix p m c (mB k) (mX k) s args TB (cN (mC k)) := ⟨C0.1, C0.2.1, C0.2.2.1, C0.2.2.2.1, C0.2.2.2.2.2⟩
  have hbl := blind (D := D) (cA := cA) (base := base) (b0 := b0) (t0 := t0) (h := h) (a := a)
  have hpre : ∀ U : State, U.heap = H → s.WarmedH U.vm → va_Pc (a.map (trV base b0 t0)) (fun U => Wd D cA base b0 t0 h U U.heap) (a.map (trV base b0 t0)).toArray U := fun U hU hw => ⟨rfl, by show Wd D cA base b0 t0 h U U.heap; rw [hU]; exact W0.warm hw⟩
  have hRoom : mX k' ≤ 12 → mu k' a + 1 ≤ R.frames ∧ 8 + (mX k' + 11) + 64 * mu k' a ≤ R.locals := fun q => by omega
  rcases hcal with ⟨x, hd, hm⟩ | ⟨x, hd, hm⟩ | ⟨x, hd, hm | hm⟩
  · obtain ⟨w1, w2, w3, w4, m1, m2, m3⟩ := cV_c hm
    have hp := mk_p k' m3
    obtain ⟨wc, wx⟩ := mk_c m3
    have M := met_of ih hx1 m3 c5
    obtain ⟨y, as, rfl, d2⟩ := rcv_inv m1 c2
    obtain ⟨j, rfl⟩ := st_own d2.2.1
    obtain ⟨cell, q1, q2, q3, q4⟩ := obj_own W0 (j := j) (by omega)
    rw [d2.1] at q2
    have hcn : (mY k').cls = (vT (mC k')).1 := by rw [hp.2.2.2.2.2, (vT_len _ m2).2.1]
    have hK := W0.1.1 (mC k') _ (vT_get _ m2)
    have hpr : (parseMethodDescriptor (mY k').desc).map (fun d => d.parameters.length) = some (as.map (trV base b0 t0)).length := by
      refine prm (o := mrc k') ?_
      rw [hp.2.2.2.1, ← c3, m1, List.length_map]
      rfl
    exact runV_abs (As := as.map (trV base b0 t0)) (b := base + j) hS M wc w1 w2 w3 w4 ⟨hp.2.1, hp.2.2.1, hpr⟩ (hRoom wx) ⟨hbl, ⟨cell, q1, by rw [q3]; rfl, by rw [q2, hcn]; exact hK.2.1⟩, hpre⟩ rfl hsz (by simp [trV, trA]) hW8 hd hroom
  · obtain ⟨w1, w2, w4, m1, m3⟩ := cS_c hm
    have hp := mk_p k' m3
    obtain ⟨wc, wx⟩ := mk_c m3
    have M := met_of ih hx1 m3 c5
    have hpr : (parseMethodDescriptor (mY k').desc).map (fun d => d.parameters.length) = some (a.map (trV base b0 t0)).length := by
      refine prm (o := mrc k') ?_
      rw [hp.2.2.2.1, ← c3, m1, List.length_map]
      rfl
    exact runS_abs (As := a.map (trV base b0 t0)) hS M wc w1 w2 w4 ⟨hp.2.1, hp.2.2.1, hpr⟩ (hRoom wx) ⟨hbl, hpre⟩ rfl hsz rfl hW8 hd hroom
  · obtain ⟨w1, w2, w4, m1, m2, m4, m3⟩ := cI_c hm
    have hp := mk_p k' m3
    obtain ⟨wc, wx⟩ := mk_c m3
    have M := met_of ih hx1 m3 c5
    unfold cdW at M
    rw [m4] at M wc
    obtain ⟨cc, e5⟩ := Option.isSome_iff_exists.mp m1
    obtain ⟨y, as, rfl, d2⟩ := rcv_inv e5 c2
    obtain ⟨j, rfl⟩ := st_own d2.2.1
    have hpr : (parseMethodDescriptor (mY k').desc).map (fun d => d.parameters.length) = some (as.map (trV base b0 t0)).length := by
      refine prm (o := mrc k') ?_
      rw [hp.2.2.2.1, ← c3, e5, List.length_map]
      rfl
    exact runI_abs (As := as.map (trV base b0 t0)) (b := base + j) hS M wc w1 w2 w4 m2 ⟨hp.2.1, hp.2.2.1, hpr⟩ (hRoom wx) ⟨hbl, hpre⟩ rfl hsz (by simp [trV, trA]) hW8 hd hroom
  · obtain ⟨w2, w4, m1, m2, m4, m3⟩ := cM_c hm
    have hp := mk_p k' m3
    obtain ⟨wc, wx⟩ := mk_c m3
    have M := met_of ih hx1 m3 c5
    unfold cdW at M
    rw [m4] at M wc
    obtain ⟨cc, e5⟩ := Option.isSome_iff_exists.mp m1
    obtain ⟨y, as, rfl, d2⟩ := rcv_inv e5 c2
    obtain ⟨j, rfl⟩ := st_own d2.2.1
    have hpr : (parseMethodDescriptor (mY k').desc).map (fun d => d.parameters.length) = some (as.map (trV base b0 t0)).length := by
      refine prm (o := mrc k') ?_
      rw [hp.2.2.2.1, ← c3, e5, List.length_map]
      rfl
    exact runN_abs (As := as.map (trV base b0 t0)) (b := base + j) hS M wc (Nst_c W0.2.2.2 hm) w2 w4 m2 ⟨hp.2.1, hp.2.2.1, hpr⟩ (hRoom wx) ⟨hbl, hpre⟩ rfl hsz (by simp [trV, trA]) hW8 hd hroom
theorem si_call (k' n' : Nat) : SG l D cA base b0 t0 n → SI l D cA base b0 t0 n (.invokeinterface k' n') := by
  intro ih k μ cs ls st h r h' hx pc hok p e R s m args below meth c H locs cells slots Q lsR C0 W0 S0 L0 f1 rc fin
  obtain ⟨o1, o2⟩ := ok2 hok rfl rfl
  obtain ⟨hn', hcal⟩ := okCal o1
  simp only [stp] at hx
  split at hx
  · rename_i hst
    simp only [KK] at hx
    split at hx
    · rename_i hc
      obtain ⟨⟨r1, h1⟩, hx1, hx2⟩ := Option.bind_eq_some_iff.mp hx
      have hx2 : xec n k μ cs ls (psh r1 (st.drop n')) h1 = some (r, h') := hx2
      have hx1 : xec n k' (mu k' (st.take n').reverse) (blk k' 0) (ent k' (st.take n').reverse) [] h = some (r1, h1) := hx1
      obtain ⟨g1, g2⟩ := grow _ _ _ _ _ _ _ _ _ hx1
      obtain ⟨g3, g4⟩ := grow _ _ _ _ _ _ _ _ _ hx2
      have hst2 : st = (st.take n').reverse.reverse ++ st.drop n' := by rw [List.reverse_reverse, List.take_append_drop]
      have hst2 : st.map (trV base b0 t0) = ((st.take n').reverse.map (trV base b0 t0)).reverse ++ (st.drop n').map (trV base b0 t0) := by
        rw [← List.map_reverse, ← List.map_append, ← hst2]
      have hroom : cells + (h1.1.length - h.1.length) ≤ R.cells ∧ slots + (szH h1 - szH h) ≤ R.slots := by omega
      have e1 : cells + (h'.1.length - h.1.length) = cells + (h1.1.length - h.1.length) + (h'.1.length - h1.1.length) := by omega
      have e2 : slots + (szH h' - szH h) = slots + (szH h1 - szH h) + (szH h' - szH h1) := by omega
      rw [e1, e2] at rc fin
      rw [hst2]
      refine W_after (call_all ih C0 W0 L0.2.choose_spec.1.1 f1 hx1 hc hroom hst.2 hcal) S0 W0.2.2.2 fun H1 locs1 w1 s1 => ?_
      rw [psh_map]
      exact ih k μ cs ls _ h1 r h' hx2 _ o2 p e R s m args below meth c H1 locs1 _ _ Q lsR C0 w1 s1 L0 f1 rc fin
    · cases hx
  · cases hx
theorem sg_step (ih : SG l D cA base b0 t0 n) : SG l D cA base b0 t0 (n + 1) := by
  intro k μ cs ls st h r h' hx pc hok
  match cs, hx, hok with
  | i :: cs, hx, hok =>
    have hx : KK (xec n) k μ (stp k i cs ls st h) = some (r, h') := hx
    cases i with
    | iconst v => exact si_iconst v ih k μ cs ls st h r h' hx pc hok
    | bipush v => exact si_bipush v ih k μ cs ls st h r h' hx pc hok
    | sipush v => exact si_sipush v ih k μ cs ls st h r h' hx pc hok
    | lconst v => exact si_lconst v ih k μ cs ls st h r h' hx pc hok
    | ldc v => exact si_ldc v ih k μ cs ls st h r h' hx pc hok
    | ldc_w v => exact si_ldcw v ih k μ cs ls st h r h' hx pc hok
    | ldc2_w v => exact si_ldc2 v ih k μ cs ls st h r h' hx pc hok
    | iload i => exact si_iload i ih k μ cs ls st h r h' hx pc hok
    | iload_n i => exact si_iload_n i ih k μ cs ls st h r h' hx pc hok
    | lload i => exact si_lload i ih k μ cs ls st h r h' hx pc hok
    | lload_n i => exact si_lload_n i ih k μ cs ls st h r h' hx pc hok
    | aload i => exact si_aload i ih k μ cs ls st h r h' hx pc hok
    | aload_n i => exact si_aload_n i ih k μ cs ls st h r h' hx pc hok
    | istore i => exact si_istore i ih k μ cs ls st h r h' hx pc hok
    | istore_n i => exact si_istore_n i ih k μ cs ls st h r h' hx pc hok
    | lstore i => exact si_lstore i ih k μ cs ls st h r h' hx pc hok
    | lstore_n i => exact si_lstore_n i ih k μ cs ls st h r h' hx pc hok
    | astore i => exact si_astore i ih k μ cs ls st h r h' hx pc hok
    | astore_n i => exact si_astore_n i ih k μ cs ls st h r h' hx pc hok
    | iinc i z => exact si_iinc i z ih k μ cs ls st h r h' hx pc hok
    | iadd => exact si_iadd ih k μ cs ls st h r h' hx pc hok
    | isub => exact si_isub ih k μ cs ls st h r h' hx pc hok
    | imul => exact si_imul ih k μ cs ls st h r h' hx pc hok
    | idiv => exact si_idiv ih k μ cs ls st h r h' hx pc hok
    | irem => exact si_irem ih k μ cs ls st h r h' hx pc hok
    | ineg => exact si_ineg ih k μ cs ls st h r h' hx pc hok
    | iand => exact si_iand ih k μ cs ls st h r h' hx pc hok
    | ior => exact si_ior ih k μ cs ls st h r h' hx pc hok
    | ixor => exact si_ixor ih k μ cs ls st h r h' hx pc hok
    | ishl => exact si_ishl ih k μ cs ls st h r h' hx pc hok
    | ishr => exact si_ishr ih k μ cs ls st h r h' hx pc hok
    | iushr => exact si_iushr ih k μ cs ls st h r h' hx pc hok
    | i2b => exact si_i2b ih k μ cs ls st h r h' hx pc hok
    | i2s => exact si_i2s ih k μ cs ls st h r h' hx pc hok
    | ladd => exact si_ladd ih k μ cs ls st h r h' hx pc hok
    | lor => exact si_lor ih k μ cs ls st h r h' hx pc hok
    | lshl => exact si_lshl ih k μ cs ls st h r h' hx pc hok
    | i2l => exact si_i2l ih k μ cs ls st h r h' hx pc hok
    | lcmp => exact si_lcmp ih k μ cs ls st h r h' hx pc hok
    | dup => exact si_dup ih k μ cs ls st h r h' hx pc hok
    | dup2 => exact si_dup2 ih k μ cs ls st h r h' hx pc hok
    | ifCond c t => exact si_if c t ih k μ cs ls st h r h' hx pc hok
    | if_icmp c t => exact si_icmp c t ih k μ cs ls st h r h' hx pc hok
    | ifnonnull t => exact si_ifnonnull t ih k μ cs ls st h r h' hx pc hok
    | goto t => exact si_goto t ih k μ cs ls st h r h' hx pc hok
    | goto_w t => exact si_gotow t ih k μ cs ls st h r h' hx pc hok
    | tableswitch d lo hi os => exact si_tsw d lo hi os ih k μ cs ls st h r h' hx pc hok
    | lookupswitch d ps => exact si_lsw d ps ih k μ cs ls st h r h' hx pc hok
    | iaload => exact si_iaload ih k μ cs ls st h r h' hx pc hok
    | saload => exact si_saload ih k μ cs ls st h r h' hx pc hok
    | baload => exact si_baload ih k μ cs ls st h r h' hx pc hok
    | laload => exact si_laload ih k μ cs ls st h r h' hx pc hok
    | iastore => exact si_iastore ih k μ cs ls st h r h' hx pc hok
    | sastore => exact si_sastore ih k μ cs ls st h r h' hx pc hok
    | bastore => exact si_bastore ih k μ cs ls st h r h' hx pc hok
    | lastore => exact si_lastore ih k μ cs ls st h r h' hx pc hok
    | arraylength => exact si_alen ih k μ cs ls st h r h' hx pc hok
    | getfield f => exact si_getfield f ih k μ cs ls st h r h' hx pc hok
    | putfield f => exact si_putfield f ih k μ cs ls st h r h' hx pc hok
    | getstatic f => exact si_getstatic f ih k μ cs ls st h r h' hx pc hok
    | new c => exact si_new c ih k μ cs ls st h r h' hx pc hok
    | newarray t => exact si_newarray t ih k μ cs ls st h r h' hx pc hok
    | invokespecial f => exact si_objinit f ih k μ cs ls st h r h' hx pc hok
    | invokestatic f => exact si_copy f ih k μ cs ls st h r h' hx pc hok
    | invokeinterface k' n' => exact si_call k' n' ih k μ cs ls st h r h' hx pc hok
    | ireturn => exact si_ireturn k μ cs ls st h r h' hx pc hok
    | lreturn => exact si_lreturn k μ cs ls st h r h' hx pc hok
    | areturn => exact si_areturn k μ cs ls st h r h' hx pc hok
    | return_ => exact si_return k μ cs ls st h r h' hx pc hok
    | _ => exact absurd (show (none : Option Rz) = some (r, h') from hx) (by simp)
theorem sg_all : SG l D cA base b0 t0 n := by
  induction n with
  | zero => intro k μ cs ls st h r h' hx; cases hx
  | succ n ih => exact sg_step ih
end SIG
