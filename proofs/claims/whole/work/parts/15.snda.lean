/-! the rows of the plain instructions, by program -/
section SIA
variable {l : Launch} {D : va_G} {cA : Nat → ClassId} {base b0 t0 n : Nat}
theorem si_bipush (v : Int) : SG l D cA base b0 t0 n → SI l D cA base b0 t0 n (.bipush v) := by
  intro ih k μ cs ls st h r h' hx pc hok p e R s m args below meth c H locs cells slots Q lsR C0 W0 S0 L0 f1 rc fin
  obtain ⟨o1, o2⟩ := ok2 hok rfl rfl
  exact lv_bipush C0.1 C0.2.1 (okD o1 (fun _ _ => rfl)) rfl (ih k μ cs ls _ h r h' hx _ o2 p e R s m args below meth c H locs cells slots Q lsR C0 W0 S0 L0 f1 rc fin)
theorem si_sipush (v : Int) : SG l D cA base b0 t0 n → SI l D cA base b0 t0 n (.sipush v) := by
  intro ih k μ cs ls st h r h' hx pc hok p e R s m args below meth c H locs cells slots Q lsR C0 W0 S0 L0 f1 rc fin
  obtain ⟨o1, o2⟩ := ok2 hok rfl rfl
  exact lv_sipush C0.1 C0.2.1 (okD o1 (fun _ _ => rfl)) rfl (ih k μ cs ls _ h r h' hx _ o2 p e R s m args below meth c H locs cells slots Q lsR C0 W0 S0 L0 f1 rc fin)
theorem si_lconst (v : Fin 2) : SG l D cA base b0 t0 n → SI l D cA base b0 t0 n (.lconst v) := by
  intro ih k μ cs ls st h r h' hx pc hok p e R s m args below meth c H locs cells slots Q lsR C0 W0 S0 L0 f1 rc fin
  obtain ⟨o1, o2⟩ := ok2 hok rfl rfl
  exact lv_lconst C0.1 C0.2.1 (okD o1 (fun _ _ => rfl)) rfl (ih k μ cs ls _ h r h' hx _ o2 p e R s m args below meth c H locs cells slots Q lsR C0 W0 S0 L0 f1 rc fin)
theorem si_isub : SG l D cA base b0 t0 n → SI l D cA base b0 t0 n (.isub) := by
  intro ih k μ cs ls st h r h' hx pc hok p e R s m args below meth c H locs cells slots Q lsR C0 W0 S0 L0 f1 rc fin
  obtain ⟨o1, o2⟩ := ok2 hok rfl rfl
  obtain ⟨y, x, st', rfl, hx⟩ := o2_inv (f := fun a b => a - b) hx
  exact lv_isub C0.1 C0.2.1 (okD o1 (fun _ _ => rfl)) (ih k μ cs ls _ h r h' hx _ o2 p e R s m args below meth c H locs cells slots Q lsR C0 W0 S0 L0 f1 rc fin)
theorem si_imul : SG l D cA base b0 t0 n → SI l D cA base b0 t0 n (.imul) := by
  intro ih k μ cs ls st h r h' hx pc hok p e R s m args below meth c H locs cells slots Q lsR C0 W0 S0 L0 f1 rc fin
  obtain ⟨o1, o2⟩ := ok2 hok rfl rfl
  obtain ⟨y, x, st', rfl, hx⟩ := o2_inv (f := fun a b => a * b) hx
  exact lv_imul C0.1 C0.2.1 (okD o1 (fun _ _ => rfl)) (ih k μ cs ls _ h r h' hx _ o2 p e R s m args below meth c H locs cells slots Q lsR C0 W0 S0 L0 f1 rc fin)
theorem si_iand : SG l D cA base b0 t0 n → SI l D cA base b0 t0 n (.iand) := by
  intro ih k μ cs ls st h r h' hx pc hok p e R s m args below meth c H locs cells slots Q lsR C0 W0 S0 L0 f1 rc fin
  obtain ⟨o1, o2⟩ := ok2 hok rfl rfl
  obtain ⟨y, x, st', rfl, hx⟩ := o2_inv (f := fun a b => a &&& b) hx
  exact lv_iand C0.1 C0.2.1 (okD o1 (fun _ _ => rfl)) (ih k μ cs ls _ h r h' hx _ o2 p e R s m args below meth c H locs cells slots Q lsR C0 W0 S0 L0 f1 rc fin)
theorem si_ior : SG l D cA base b0 t0 n → SI l D cA base b0 t0 n (.ior) := by
  intro ih k μ cs ls st h r h' hx pc hok p e R s m args below meth c H locs cells slots Q lsR C0 W0 S0 L0 f1 rc fin
  obtain ⟨o1, o2⟩ := ok2 hok rfl rfl
  obtain ⟨y, x, st', rfl, hx⟩ := o2_inv (f := fun a b => a ||| b) hx
  exact lv_ior C0.1 C0.2.1 (okD o1 (fun _ _ => rfl)) (ih k μ cs ls _ h r h' hx _ o2 p e R s m args below meth c H locs cells slots Q lsR C0 W0 S0 L0 f1 rc fin)
theorem si_ixor : SG l D cA base b0 t0 n → SI l D cA base b0 t0 n (.ixor) := by
  intro ih k μ cs ls st h r h' hx pc hok p e R s m args below meth c H locs cells slots Q lsR C0 W0 S0 L0 f1 rc fin
  obtain ⟨o1, o2⟩ := ok2 hok rfl rfl
  obtain ⟨y, x, st', rfl, hx⟩ := o2_inv (f := fun a b => a ^^^ b) hx
  exact lv_ixor C0.1 C0.2.1 (okD o1 (fun _ _ => rfl)) (ih k μ cs ls _ h r h' hx _ o2 p e R s m args below meth c H locs cells slots Q lsR C0 W0 S0 L0 f1 rc fin)
theorem si_ishl : SG l D cA base b0 t0 n → SI l D cA base b0 t0 n (.ishl) := by
  intro ih k μ cs ls st h r h' hx pc hok p e R s m args below meth c H locs cells slots Q lsR C0 W0 S0 L0 f1 rc fin
  obtain ⟨o1, o2⟩ := ok2 hok rfl rfl
  obtain ⟨y, x, st', rfl, hx⟩ := o2_inv (f := fun a b => a <<< (b &&& 31)) hx
  exact lv_ishl C0.1 C0.2.1 (okD o1 (fun _ _ => rfl)) (ih k μ cs ls _ h r h' hx _ o2 p e R s m args below meth c H locs cells slots Q lsR C0 W0 S0 L0 f1 rc fin)
theorem si_ishr : SG l D cA base b0 t0 n → SI l D cA base b0 t0 n (.ishr) := by
  intro ih k μ cs ls st h r h' hx pc hok p e R s m args below meth c H locs cells slots Q lsR C0 W0 S0 L0 f1 rc fin
  obtain ⟨o1, o2⟩ := ok2 hok rfl rfl
  obtain ⟨y, x, st', rfl, hx⟩ := o2_inv (f := fun a b => a >>> (b &&& 31)) hx
  exact lv_ishr C0.1 C0.2.1 (okD o1 (fun _ _ => rfl)) (ih k μ cs ls _ h r h' hx _ o2 p e R s m args below meth c H locs cells slots Q lsR C0 W0 S0 L0 f1 rc fin)
theorem si_iushr : SG l D cA base b0 t0 n → SI l D cA base b0 t0 n (.iushr) := by
  intro ih k μ cs ls st h r h' hx pc hok p e R s m args below meth c H locs cells slots Q lsR C0 W0 S0 L0 f1 rc fin
  obtain ⟨o1, o2⟩ := ok2 hok rfl rfl
  obtain ⟨y, x, st', rfl, hx⟩ := o2_inv (f := fun a b => (a.toUInt32 >>> (b.toUInt32 &&& Int32.toUInt32 31)).toInt32) hx
  exact lv_iushr C0.1 C0.2.1 (okD o1 (fun _ _ => rfl)) rfl (ih k μ cs ls _ h r h' hx _ o2 p e R s m args below meth c H locs cells slots Q lsR C0 W0 S0 L0 f1 rc fin)
theorem si_idiv : SG l D cA base b0 t0 n → SI l D cA base b0 t0 n (.idiv) := by
  intro ih k μ cs ls st h r h' hx pc hok p e R s m args below meth c H locs cells slots Q lsR C0 W0 S0 L0 f1 rc fin
  obtain ⟨o1, o2⟩ := ok2 hok rfl rfl
  obtain ⟨y, x, st', rfl, hz, hx⟩ := o2z_inv (f := fun a b => a / b) hx
  exact lv_idiv C0.1 C0.2.1 (okD o1 (fun _ _ => rfl)) hz (ih k μ cs ls _ h r h' hx _ o2 p e R s m args below meth c H locs cells slots Q lsR C0 W0 S0 L0 f1 rc fin)
theorem si_irem : SG l D cA base b0 t0 n → SI l D cA base b0 t0 n (.irem) := by
  intro ih k μ cs ls st h r h' hx pc hok p e R s m args below meth c H locs cells slots Q lsR C0 W0 S0 L0 f1 rc fin
  obtain ⟨o1, o2⟩ := ok2 hok rfl rfl
  obtain ⟨y, x, st', rfl, hz, hx⟩ := o2z_inv (f := fun a b => a - a / b * b) hx
  exact lv_irem C0.1 C0.2.1 (okD o1 (fun _ _ => rfl)) hz (ih k μ cs ls _ h r h' hx _ o2 p e R s m args below meth c H locs cells slots Q lsR C0 W0 S0 L0 f1 rc fin)
theorem si_ineg : SG l D cA base b0 t0 n → SI l D cA base b0 t0 n (.ineg) := by
  intro ih k μ cs ls st h r h' hx pc hok p e R s m args below meth c H locs cells slots Q lsR C0 W0 S0 L0 f1 rc fin
  obtain ⟨o1, o2⟩ := ok2 hok rfl rfl
  obtain ⟨x, st', rfl, hx⟩ := o1_inv (f := fun a => -a) hx
  exact lv_ineg C0.1 C0.2.1 (okD o1 (fun _ _ => rfl)) (ih k μ cs ls _ h r h' hx _ o2 p e R s m args below meth c H locs cells slots Q lsR C0 W0 S0 L0 f1 rc fin)
theorem si_i2b : SG l D cA base b0 t0 n → SI l D cA base b0 t0 n (.i2b) := by
  intro ih k μ cs ls st h r h' hx pc hok p e R s m args below meth c H locs cells slots Q lsR C0 W0 S0 L0 f1 rc fin
  obtain ⟨o1, o2⟩ := ok2 hok rfl rfl
  obtain ⟨x, st', rfl, hx⟩ := o1_inv (f := fun a => a.toInt8.toInt32) hx
  exact lv_i2b C0.1 C0.2.1 (okD o1 (fun _ _ => rfl)) rfl (ih k μ cs ls _ h r h' hx _ o2 p e R s m args below meth c H locs cells slots Q lsR C0 W0 S0 L0 f1 rc fin)
theorem si_i2s : SG l D cA base b0 t0 n → SI l D cA base b0 t0 n (.i2s) := by
  intro ih k μ cs ls st h r h' hx pc hok p e R s m args below meth c H locs cells slots Q lsR C0 W0 S0 L0 f1 rc fin
  obtain ⟨o1, o2⟩ := ok2 hok rfl rfl
  obtain ⟨x, st', rfl, hx⟩ := o1_inv (f := fun a => a.toInt16.toInt32) hx
  exact lv_i2s C0.1 C0.2.1 (okD o1 (fun _ _ => rfl)) rfl (ih k μ cs ls _ h r h' hx _ o2 p e R s m args below meth c H locs cells slots Q lsR C0 W0 S0 L0 f1 rc fin)
theorem si_ladd : SG l D cA base b0 t0 n → SI l D cA base b0 t0 n (.ladd) := by
  intro ih k μ cs ls st h r h' hx pc hok p e R s m args below meth c H locs cells slots Q lsR C0 W0 S0 L0 f1 rc fin
  obtain ⟨o1, o2⟩ := ok2 hok rfl rfl
  obtain ⟨y, x, st', rfl, hx⟩ := q2_inv (f := fun a b => a + b) hx
  exact lv_ladd C0.1 C0.2.1 (okD o1 (fun _ _ => rfl)) (ih k μ cs ls _ h r h' hx _ o2 p e R s m args below meth c H locs cells slots Q lsR C0 W0 S0 L0 f1 rc fin)
theorem si_lor : SG l D cA base b0 t0 n → SI l D cA base b0 t0 n (.lor) := by
  intro ih k μ cs ls st h r h' hx pc hok p e R s m args below meth c H locs cells slots Q lsR C0 W0 S0 L0 f1 rc fin
  obtain ⟨o1, o2⟩ := ok2 hok rfl rfl
  obtain ⟨y, x, st', rfl, hx⟩ := q2_inv (f := fun a b => a ||| b) hx
  exact lv_lor C0.1 C0.2.1 (okD o1 (fun _ _ => rfl)) (ih k μ cs ls _ h r h' hx _ o2 p e R s m args below meth c H locs cells slots Q lsR C0 W0 S0 L0 f1 rc fin)
theorem si_lshl : SG l D cA base b0 t0 n → SI l D cA base b0 t0 n (.lshl) := by
  intro ih k μ cs ls st h r h' hx pc hok p e R s m args below meth c H locs cells slots Q lsR C0 W0 S0 L0 f1 rc fin
  obtain ⟨o1, o2⟩ := ok2 hok rfl rfl
  simp only [stp] at hx
  split at hx
  · exact lv_lshl C0.1 C0.2.1 (okD o1 (fun _ _ => rfl)) rfl (ih k μ cs ls _ h r h' hx _ o2 p e R s m args below meth c H locs cells slots Q lsR C0 W0 S0 L0 f1 rc fin)
  · cases hx
theorem si_i2l : SG l D cA base b0 t0 n → SI l D cA base b0 t0 n (.i2l) := by
  intro ih k μ cs ls st h r h' hx pc hok p e R s m args below meth c H locs cells slots Q lsR C0 W0 S0 L0 f1 rc fin
  obtain ⟨o1, o2⟩ := ok2 hok rfl rfl
  simp only [stp] at hx
  split at hx
  · exact lv_i2l C0.1 C0.2.1 (okD o1 (fun _ _ => rfl)) rfl (ih k μ cs ls _ h r h' hx _ o2 p e R s m args below meth c H locs cells slots Q lsR C0 W0 S0 L0 f1 rc fin)
  · cases hx
theorem si_lcmp : SG l D cA base b0 t0 n → SI l D cA base b0 t0 n (.lcmp) := by
  intro ih k μ cs ls st h r h' hx pc hok p e R s m args below meth c H locs cells slots Q lsR C0 W0 S0 L0 f1 rc fin
  obtain ⟨o1, o2⟩ := ok2 hok rfl rfl
  simp only [stp] at hx
  split at hx
  · exact W.lcmp C0.1 C0.2.1 (okD o1 (fun _ _ => rfl)) (ih k μ cs ls _ h r h' hx _ o2 p e R s m args below meth c H locs cells slots Q lsR C0 W0 S0 L0 f1 rc fin)
  · cases hx
theorem si_dup : SG l D cA base b0 t0 n → SI l D cA base b0 t0 n (.dup) := by
  intro ih k μ cs ls st h r h' hx pc hok p e R s m args below meth c H locs cells slots Q lsR C0 W0 S0 L0 f1 rc fin
  obtain ⟨o1, o2⟩ := ok2 hok rfl rfl
  simp only [stp] at hx
  split at hx
  · exact lv_dup C0.1 C0.2.1 (okD o1 (fun _ _ => rfl)) rfl (ih k μ cs ls _ h r h' hx _ o2 p e R s m args below meth c H locs cells slots Q lsR C0 W0 S0 L0 f1 rc fin)
  · exact lv_dup C0.1 C0.2.1 (okD o1 (fun _ _ => rfl)) rfl (ih k μ cs ls _ h r h' hx _ o2 p e R s m args below meth c H locs cells slots Q lsR C0 W0 S0 L0 f1 rc fin)
  · cases hx
theorem si_dup2 : SG l D cA base b0 t0 n → SI l D cA base b0 t0 n (.dup2) := by
  intro ih k μ cs ls st h r h' hx pc hok p e R s m args below meth c H locs cells slots Q lsR C0 W0 S0 L0 f1 rc fin
  obtain ⟨o1, o2⟩ := ok2 hok rfl rfl
  simp only [stp] at hx
  split at hx
  · exact lv_dup2_11 C0.1 C0.2.1 (okD o1 (fun _ _ => rfl)) rfl rfl (ih k μ cs ls _ h r h' hx _ o2 p e R s m args below meth c H locs cells slots Q lsR C0 W0 S0 L0 f1 rc fin)
  · cases hx
theorem si_lload (i : Nat) : SG l D cA base b0 t0 n → SI l D cA base b0 t0 n (.lload i) := by
  intro ih k μ cs ls st h r h' hx pc hok p e R s m args below meth c H locs cells slots Q lsR C0 W0 S0 L0 f1 rc fin
  obtain ⟨o1, o2⟩ := ok2 hok rfl rfl
  obtain ⟨v, hv, hx⟩ := ldl_inv hx
  exact lv_lload C0.1 C0.2.1 (okD o1 (fun _ _ => rfl)) (L0.at hv) (ih k μ cs ls _ h r h' hx _ o2 p e R s m args below meth c H locs cells slots Q lsR C0 W0 S0 L0 f1 rc fin)
theorem si_aload (i : Nat) : SG l D cA base b0 t0 n → SI l D cA base b0 t0 n (.aload i) := by
  intro ih k μ cs ls st h r h' hx pc hok p e R s m args below meth c H locs cells slots Q lsR C0 W0 S0 L0 f1 rc fin
  obtain ⟨o1, o2⟩ := ok2 hok rfl rfl
  obtain ⟨v, hv, hx⟩ := lda_inv hx
  exact lv_aload C0.1 C0.2.1 (okD o1 (fun _ _ => rfl)) (L0.at hv) (ih k μ cs ls _ h r h' hx _ o2 p e R s m args below meth c H locs cells slots Q lsR C0 W0 S0 L0 f1 rc fin)
theorem si_iload_n (i : Fin 4) : SG l D cA base b0 t0 n → SI l D cA base b0 t0 n (.iload_n i) := by
  intro ih k μ cs ls st h r h' hx pc hok p e R s m args below meth c H locs cells slots Q lsR C0 W0 S0 L0 f1 rc fin
  obtain ⟨o1, o2⟩ := ok2 hok rfl rfl
  obtain ⟨v, hv, hx⟩ := ldi_inv hx
  exact lv_iload_n C0.1 C0.2.1 (okD o1 (fun _ _ => rfl)) rfl (L0.at hv) (ih k μ cs ls _ h r h' hx _ o2 p e R s m args below meth c H locs cells slots Q lsR C0 W0 S0 L0 f1 rc fin)
theorem si_lload_n (i : Fin 4) : SG l D cA base b0 t0 n → SI l D cA base b0 t0 n (.lload_n i) := by
  intro ih k μ cs ls st h r h' hx pc hok p e R s m args below meth c H locs cells slots Q lsR C0 W0 S0 L0 f1 rc fin
  obtain ⟨o1, o2⟩ := ok2 hok rfl rfl
  obtain ⟨v, hv, hx⟩ := ldl_inv hx
  exact lv_lload_n C0.1 C0.2.1 (okD o1 (fun _ _ => rfl)) rfl (L0.at hv) (ih k μ cs ls _ h r h' hx _ o2 p e R s m args below meth c H locs cells slots Q lsR C0 W0 S0 L0 f1 rc fin)
theorem si_aload_n (i : Fin 4) : SG l D cA base b0 t0 n → SI l D cA base b0 t0 n (.aload_n i) := by
  intro ih k μ cs ls st h r h' hx pc hok p e R s m args below meth c H locs cells slots Q lsR C0 W0 S0 L0 f1 rc fin
  obtain ⟨o1, o2⟩ := ok2 hok rfl rfl
  obtain ⟨v, hv, hx⟩ := lda_inv hx
  exact lv_aload_n C0.1 C0.2.1 (okD o1 (fun _ _ => rfl)) rfl (L0.at hv) (ih k μ cs ls _ h r h' hx _ o2 p e R s m args below meth c H locs cells slots Q lsR C0 W0 S0 L0 f1 rc fin)
theorem si_istore_n (i : Fin 4) : SG l D cA base b0 t0 n → SI l D cA base b0 t0 n (.istore_n i) := by
  intro ih k μ cs ls st h r h' hx pc hok p e R s m args below meth c H locs cells slots Q lsR C0 W0 S0 L0 f1 rc fin
  obtain ⟨o1, o2⟩ := ok2 hok rfl rfl
  obtain ⟨v, st', rfl, hi, hx⟩ := sti_inv hx
  obtain ⟨hn, lv, hl1, hl2⟩ := L0
  exact lv_istore_n C0.1 C0.2.1 (okD o1 (fun _ _ => rfl)) rfl hl1 (hn ▸ hi) rfl (fun ls' hl' => ih k μ cs _ _ h r h' hx _ o2 p e R s m args below meth c H locs cells slots Q ls' C0 W0 S0 (LR.s1 (v := .int v) hn hl2 hl') f1 rc fin)
theorem si_astore_n (i : Fin 4) : SG l D cA base b0 t0 n → SI l D cA base b0 t0 n (.astore_n i) := by
  intro ih k μ cs ls st h r h' hx pc hok p e R s m args below meth c H locs cells slots Q lsR C0 W0 S0 L0 f1 rc fin
  obtain ⟨o1, o2⟩ := ok2 hok rfl rfl
  obtain ⟨v, st', rfl, hi, hx⟩ := sta_inv hx
  obtain ⟨hn, lv, hl1, hl2⟩ := L0
  exact lv_astore_n C0.1 C0.2.1 (okD o1 (fun _ _ => rfl)) rfl hl1 (hn ▸ hi) rfl (fun ls' hl' => ih k μ cs _ _ h r h' hx _ o2 p e R s m args below meth c H locs cells slots Q ls' C0 W0 S0 (LR.s1 (v := .ref v) hn hl2 hl') f1 rc fin)
theorem si_astore (i : Nat) : SG l D cA base b0 t0 n → SI l D cA base b0 t0 n (.astore i) := by
  intro ih k μ cs ls st h r h' hx pc hok p e R s m args below meth c H locs cells slots Q lsR C0 W0 S0 L0 f1 rc fin
  obtain ⟨o1, o2⟩ := ok2 hok rfl rfl
  obtain ⟨v, st', rfl, hi, hx⟩ := sta_inv hx
  obtain ⟨hn, lv, hl1, hl2⟩ := L0
  exact lv_astore C0.1 C0.2.1 (okD o1 (fun _ _ => rfl)) hl1 (hn ▸ hi) rfl (fun ls' hl' => ih k μ cs _ _ h r h' hx _ o2 p e R s m args below meth c H locs cells slots Q ls' C0 W0 S0 (LR.s1 (v := .ref v) hn hl2 hl') f1 rc fin)
theorem si_lstore_n (i : Fin 4) : SG l D cA base b0 t0 n → SI l D cA base b0 t0 n (.lstore_n i) := by
  intro ih k μ cs ls st h r h' hx pc hok p e R s m args below meth c H locs cells slots Q lsR C0 W0 S0 L0 f1 rc fin
  obtain ⟨o1, o2⟩ := ok2 hok rfl rfl
  obtain ⟨v, st', rfl, hi, hx⟩ := stg_inv hx
  obtain ⟨hn, lv, hl1, hl2⟩ := L0
  exact lv_lstore_n C0.1 C0.2.1 (okD o1 (fun _ _ => rfl)) rfl hl1 (hn ▸ hi) rfl (fun ls' hl' => ih k μ cs _ _ h r h' hx _ o2 p e R s m args below meth c H locs cells slots Q ls' C0 W0 S0 (LR.s2 (v := .long v) hn hl2 hl') f1 rc fin)
theorem si_lstore (i : Nat) : SG l D cA base b0 t0 n → SI l D cA base b0 t0 n (.lstore i) := by
  intro ih k μ cs ls st h r h' hx pc hok p e R s m args below meth c H locs cells slots Q lsR C0 W0 S0 L0 f1 rc fin
  obtain ⟨o1, o2⟩ := ok2 hok rfl rfl
  obtain ⟨v, st', rfl, hi, hx⟩ := stg_inv hx
  obtain ⟨hn, lv, hl1, hl2⟩ := L0
  exact lv_lstore C0.1 C0.2.1 (okD o1 (fun _ _ => rfl)) hl1 (hn ▸ hi) rfl (fun ls' hl' => ih k μ cs _ _ h r h' hx _ o2 p e R s m args below meth c H locs cells slots Q ls' C0 W0 S0 (LR.s2 (v := .long v) hn hl2 hl') f1 rc fin)
theorem si_iinc (i : Nat) (z : Int) : SG l D cA base b0 t0 n → SI l D cA base b0 t0 n (.iinc i z) := by
  intro ih k μ cs ls st h r h' hx pc hok p e R s m args below meth c H locs cells slots Q lsR C0 W0 S0 L0 f1 rc fin
  obtain ⟨o1, o2⟩ := ok2 hok rfl rfl
  simp only [stp] at hx
  split at hx
  · rename_i v hv
    obtain ⟨hn, lv, hl1, hl2⟩ := L0
    obtain ⟨q, hq⟩ := List.getElem?_of_mem (hl2 i _ (getD_some hv))
    have hi : i < mX k := by
      rcases Nat.lt_or_ge i ls.length with g | g
      · exact hn ▸ g
      · rw [List.getD_eq_getElem?_getD, List.getElem?_eq_none g] at hv
        cases hv
    exact lv_iinc C0.1 C0.2.1 (okD o1 (fun _ _ => rfl)) hl1 hq rfl hi rfl (fun ls' hl' => ih k μ cs _ _ h r h' hx _ o2 p e R s m args below meth c H locs cells slots Q ls' C0 W0 S0 (LR.s1 (v := .int (v + Int32.ofInt z)) hn hl2 hl') f1 rc fin)
  · cases hx
theorem si_icmp (cc : Jvm.ClassFile.Cond) (t : Int) : SG l D cA base b0 t0 n → SI l D cA base b0 t0 n (.if_icmp cc t) := by
  intro ih k μ cs ls st h r h' hx pc hok p e R s m args below meth c H locs cells slots Q lsR C0 W0 S0 L0 f1 rc fin
  obtain ⟨o1, o2⟩ := ok2 hok rfl rfl
  obtain ⟨raw, len, hd, o1⟩ := okT o1
  have o1 : (decide (raw = .if_icmp cc (t - pc)) && (len == 3 && lab k t)) = true := o1
  simp only [Bool.and_eq_true, decide_eq_true_eq, beq_iff_eq] at o1
  obtain ⟨rfl, rfl, hl⟩ := o1
  obtain ⟨ht, o3⟩ := lab_ok hl
  have hto : (pc : Int) + (t - pc) = (t.toNat : Int) := by omega
  obtain ⟨y, v, st', rfl, hx1, hx2⟩ := bc_inv hx
  have A1 : cnd cc v y → W p l e R s m args below meth c H locs cells slots Q (F0 m t.toNat lsR (st'.map (trV base b0 t0))) := fun q => ih k μ _ ls _ h r h' (hx1 q) _ o3 p e R s m args below meth c H locs cells slots Q lsR C0 W0 S0 L0 f1 rc fin
  have A2 : ¬ cnd cc v y → W p l e R s m args below meth c H locs cells slots Q (F0 m (pc + 3) lsR (st'.map (trV base b0 t0))) := fun q => ih k μ cs ls _ h r h' (hx2 q) _ o2 p e R s m args below meth c H locs cells slots Q lsR C0 W0 S0 L0 f1 rc fin
  cases cc
  · exact lv_icmp_eq C0.1 C0.2.1 hd hto A1 A2
  · exact lv_icmp_ne C0.1 C0.2.1 hd hto A1 (fun q => A2 (fun z => z q))
  · exact lv_icmp_lt C0.1 C0.2.1 hd hto A1 A2
  · exact lv_icmp_ge C0.1 C0.2.1 hd hto A1 A2
  · exact lv_icmp_gt C0.1 C0.2.1 hd hto A1 A2
  · exact lv_icmp_le C0.1 C0.2.1 hd hto A1 A2
theorem si_ifnonnull (t : Int) : SG l D cA base b0 t0 n → SI l D cA base b0 t0 n (.ifnonnull t) := by
  intro ih k μ cs ls st h r h' hx pc hok p e R s m args below meth c H locs cells slots Q lsR C0 W0 S0 L0 f1 rc fin
  obtain ⟨o1, o2⟩ := ok2 hok rfl rfl
  obtain ⟨raw, len, hd, o1⟩ := okT o1
  have o1 : (decide (raw = .ifnonnull (t - pc)) && (len == 3 && lab k t)) = true := o1
  simp only [Bool.and_eq_true, decide_eq_true_eq, beq_iff_eq] at o1
  obtain ⟨rfl, rfl, hl⟩ := o1
  obtain ⟨ht, o3⟩ := lab_ok hl
  have hto : (pc : Int) + (t - pc) = (t.toNat : Int) := by omega
  rcases bnn_inv hx with ⟨v, st', rfl, hx⟩ | ⟨st', rfl, hx⟩
  · exact lv_ifnonnull C0.1 C0.2.1 hd hto (ih k μ _ ls _ h r h' hx _ o3 p e R s m args below meth c H locs cells slots Q lsR C0 W0 S0 L0 f1 rc fin)
  · exact lv_ifnonnullN C0.1 C0.2.1 hd (ih k μ cs ls _ h r h' hx _ o2 p e R s m args below meth c H locs cells slots Q lsR C0 W0 S0 L0 f1 rc fin)
theorem si_goto (t : Int) : SG l D cA base b0 t0 n → SI l D cA base b0 t0 n (.goto t) := by
  intro ih k μ cs ls st h r h' hx pc hok p e R s m args below meth c H locs cells slots Q lsR C0 W0 S0 L0 f1 rc fin
  have o1 := ok1 hok rfl
  obtain ⟨raw, len, hd, o1⟩ := okT o1
  have o1 : (decide (raw = .goto (t - pc)) && (len == 3 && lab k t)) = true := o1
  simp only [Bool.and_eq_true, decide_eq_true_eq, beq_iff_eq] at o1
  obtain ⟨rfl, rfl, hl⟩ := o1
  obtain ⟨ht, o3⟩ := lab_ok hl
  have hto : (pc : Int) + (t - pc) = (t.toNat : Int) := by omega
  exact lv_goto C0.1 C0.2.1 hd hto (ih k μ _ ls _ h r h' hx _ o3 p e R s m args below meth c H locs cells slots Q lsR C0 W0 S0 L0 f1 rc fin)
theorem si_gotow (t : Int) : SG l D cA base b0 t0 n → SI l D cA base b0 t0 n (.goto_w t) := by
  intro ih k μ cs ls st h r h' hx pc hok
  have o1 : (decide (t = (pc : Int)) && lab k t) = true := hok
  simp only [Bool.and_eq_true, decide_eq_true_eq] at o1
  obtain ⟨ht, o3⟩ := lab_ok o1.2
  have e : t.toNat = pc := by rw [o1.1]; rfl
  have g := ih k μ _ ls _ h r h' hx t.toNat o3
  rw [e] at g
  exact g
theorem si_tsw (d lo hi : Int) (os : Array Int) : SG l D cA base b0 t0 n → SI l D cA base b0 t0 n (.tableswitch d lo hi os) := by
  intro ih k μ cs ls st h r h' hx pc hok p e R s m args below meth c H locs cells slots Q lsR C0 W0 S0 L0 f1 rc fin
  have o1 := ok1 hok rfl
  obtain ⟨raw, len, hd, o1⟩ := okT o1
  have o1 : (decide (raw = .tableswitch (d - pc) lo hi (os.map (fun t => t - pc))) && (lab k d && os.all (lab k))) = true := o1
  simp only [Bool.and_eq_true, decide_eq_true_eq] at o1
  obtain ⟨rfl, hl, hos⟩ := o1
  obtain ⟨v, st', rfl, ⟨hv, hx⟩ | ⟨hv, t, ht, hx⟩⟩ := tsw_inv hx
  · obtain ⟨hd0, o3⟩ := lab_ok hl
    exact lv_tableOut (tgt := d.toNat) C0.1 C0.2.1 hd hv (by omega) (ih k μ _ ls _ h r h' hx _ o3 p e R s m args below meth c H locs cells slots Q lsR C0 W0 S0 L0 f1 rc fin)
  · have hlt : lab k t = true := by
      obtain ⟨hi1, hi2⟩ := Array.getElem?_eq_some_iff.mp ht
      rw [← hi2]
      exact (Array.all_eq_true.mp hos) _ hi1
    obtain ⟨hd0, o3⟩ := lab_ok hlt
    exact lv_tableIn (tgt := t.toNat) (off := t - pc) C0.1 C0.2.1 hd (fun q => hv (Or.inl q)) (fun q => hv (Or.inr q)) (by rw [Array.getElem?_map, ht]; rfl) (by omega) (ih k μ _ ls _ h r h' hx _ o3 p e R s m args below meth c H locs cells slots Q lsR C0 W0 S0 L0 f1 rc fin)
theorem lkp_map (pc : Int) : ∀ (ps : List (Int × Int)) (d x : Int), Op.lookupswitch.offset (ps.map (fun q => (q.1, q.2 - pc))) (d - pc) x = lkp ps d x - pc
  | [], d, x => rfl
  | (a, t) :: r, d, x => by
    have ih := lkp_map pc r d x
    show (if a = x then t - pc else Op.lookupswitch.offset (r.map (fun q => (q.1, q.2 - pc))) (d - pc) x) = (if x = a then t else lkp r d x) - pc
    by_cases e : a = x
    · rw [if_pos e, if_pos e.symm]
    · rw [if_neg e, if_neg (fun q => e q.symm), ih]
theorem lkp_lab {k : Nat} : ∀ (ps : List (Int × Int)) (d x : Int), lab k d = true → (∀ q ∈ ps, lab k q.2 = true) → lab k (lkp ps d x) = true
  | [], d, x, h, _ => h
  | (a, t) :: r, d, x, h, hp => by
    show lab k (if x = a then t else lkp r d x) = true
    by_cases e : x = a
    · rw [if_pos e]; exact hp (a, t) List.mem_cons_self
    · rw [if_neg e]; exact lkp_lab r d x h (fun q hq => hp q (List.mem_cons_of_mem _ hq))
theorem zip_map (pc : Int) (l : List (Int × Int)) (h : (l.zip (l.drop 1)).all (fun (a, next) => decide (a.1 < next.1)) = true) : ((l.map (fun q => (q.1, q.2 - pc))).zip ((l.map (fun q => (q.1, q.2 - pc))).drop 1)).all (fun (a, next) => decide (a.1 < next.1)) = true := by
  rw [← List.map_drop, List.zip_map, List.all_map]
  rw [List.all_eq_true] at h ⊢
  intro x hx
  have g := h x hx
  obtain ⟨a, b⟩ := x
  exact g
theorem si_lsw (d : Int) (ps : Array (Int × Int)) : SG l D cA base b0 t0 n → SI l D cA base b0 t0 n (.lookupswitch d ps) := by
  intro ih k μ cs ls st h r h' hx pc hok p e R s m args below meth c H locs cells slots Q lsR C0 W0 S0 L0 f1 rc fin
  have o1 := ok1 hok rfl
  obtain ⟨raw, len, hd, o1⟩ := okT o1
  have o1 : (decide (raw = .lookupswitch (d - pc) (ps.map (fun q => (q.1, q.2 - pc)))) && (lab k d && ps.all (fun q => lab k q.2) && (ps.toList.zip (ps.toList.drop 1)).all (fun (a, next) => decide (a.1 < next.1)))) = true := o1
  simp only [Bool.and_eq_true, decide_eq_true_eq] at o1
  obtain ⟨rfl, ⟨hl, hos⟩, hz⟩ := o1
  obtain ⟨v, st', rfl, hx⟩ := lsw_inv hx
  have hlt : lab k (lkp ps.toList d v.toInt) = true := lkp_lab _ _ _ hl (fun q hq => by
    have := Array.all_eq_true'.mp hos q (Array.mem_toList_iff.mp hq)
    exact this)
  obtain ⟨hd0, o3⟩ := lab_ok hlt
  exact lv_lookup (tgt := (lkp ps.toList d v.toInt).toNat) (off := lkp ps.toList d v.toInt - pc) C0.1 C0.2.1 hd (by rw [Array.toList_map]; exact zip_map pc _ hz) (by rw [Array.toList_map]; exact lkp_map pc _ _ _) (by omega) (ih k μ _ ls _ h r h' hx _ o3 p e R s m args below meth c H locs cells slots Q lsR C0 W0 S0 L0 f1 rc fin)
theorem okLdc {k pc v : Nat} (h : okI k pc (.ldc v) = true) : ∃ x, decode (mB k) pc = .ok (.ldc x, 2) ∧ (mC k, x, v) ∈ k1T := by
  obtain ⟨raw, len, e, h⟩ := okT h
  simp only [okR] at h
  split at h
  · simp only [Bool.and_eq_true, beq_iff_eq] at h
    obtain ⟨rfl, h2⟩ := h
    exact ⟨_, e, List.contains_iff_mem.mp h2⟩
  · cases h
theorem okLdcw {k pc v : Nat} (h : okI k pc (.ldc_w v) = true) : ∃ x, decode (mB k) pc = .ok (.ldc_w x, 3) ∧ (mC k, x, v) ∈ k1T := by
  obtain ⟨raw, len, e, h⟩ := okT h
  simp only [okR] at h
  split at h
  · simp only [Bool.and_eq_true, beq_iff_eq] at h
    obtain ⟨rfl, h2⟩ := h
    exact ⟨_, e, List.contains_iff_mem.mp h2⟩
  · cases h
theorem okLdc2 {k pc v : Nat} (h : okI k pc (.ldc2_w v) = true) : ∃ x, decode (mB k) pc = .ok (.ldc2_w x, 3) ∧ (mC k, x, v) ∈ k2T := by
  obtain ⟨raw, len, e, h⟩ := okT h
  simp only [okR] at h
  split at h
  · simp only [Bool.and_eq_true, beq_iff_eq] at h
    obtain ⟨rfl, h2⟩ := h
    exact ⟨_, e, List.contains_iff_mem.mp h2⟩
  · cases h
theorem si_ldc (v : Nat) : SG l D cA base b0 t0 n → SI l D cA base b0 t0 n (.ldc v) := by
  intro ih k μ cs ls st h r h' hx pc hok p e R s m args below meth c H locs cells slots Q lsR C0 W0 S0 L0 f1 rc fin
  obtain ⟨o1, o2⟩ := ok2 hok rfl rfl
  obtain ⟨x, hd, hm⟩ := okLdc o1
  exact lv_ldc C0.1 C0.2.1 C0.2.2.2.1 (C0.2.2.2.2.2 _ (tb (k1_w _ hm) rfl)) hd (ih k μ cs ls _ h r h' hx _ o2 p e R s m args below meth c H locs cells slots Q lsR C0 W0 S0 L0 f1 rc fin)
theorem si_ldcw (v : Nat) : SG l D cA base b0 t0 n → SI l D cA base b0 t0 n (.ldc_w v) := by
  intro ih k μ cs ls st h r h' hx pc hok p e R s m args below meth c H locs cells slots Q lsR C0 W0 S0 L0 f1 rc fin
  obtain ⟨o1, o2⟩ := ok2 hok rfl rfl
  obtain ⟨x, hd, hm⟩ := okLdcw o1
  exact lv_ldcw C0.1 C0.2.1 C0.2.2.2.1 (C0.2.2.2.2.2 _ (tb (k1_w _ hm) rfl)) hd (ih k μ cs ls _ h r h' hx _ o2 p e R s m args below meth c H locs cells slots Q lsR C0 W0 S0 L0 f1 rc fin)
theorem si_ldc2 (v : Nat) : SG l D cA base b0 t0 n → SI l D cA base b0 t0 n (.ldc2_w v) := by
  intro ih k μ cs ls st h r h' hx pc hok p e R s m args below meth c H locs cells slots Q lsR C0 W0 S0 L0 f1 rc fin
  obtain ⟨o1, o2⟩ := ok2 hok rfl rfl
  obtain ⟨x, hd, hm⟩ := okLdc2 o1
  exact lv_ldc2 C0.1 C0.2.1 C0.2.2.2.1 (C0.2.2.2.2.2 _ (tb (k2_w _ hm) rfl)) hd (ih k μ cs ls _ h r h' hx _ o2 p e R s m args below meth c H locs cells slots Q lsR C0 W0 S0 L0 f1 rc fin)
theorem si_ireturn : SI l D cA base b0 t0 n .ireturn := by
  intro k μ cs ls st h r h' hx pc hok p e R s m args below meth c H locs cells slots Q lsR C0 W0 S0 L0 f1 rc fin
  have o1 := okD (ok1 hok rfl) (fun _ _ => rfl)
  simp only [stp, rti] at hx
  split at hx
  · rename_i x
    split at hx
    · rename_i hz
      split at hx
      · rename_i hb
        have e2 : (some (Value.int x), h) = (r, h') := Option.some.inj hx
        cases e2
        have g := fin H locs pc lsR [.int x] (Or.inl ⟨x, .boolean, o1, rfl, rfl, of_decide_eq_true hz, by rcases hb with rfl | rfl <;> decide⟩) W0 S0
        simp only [Nat.sub_self, Nat.add_zero] at g
        exact g
      · cases hx
    · split at hx
      · rename_i hz
        have e2 : (some (Value.int x), h) = (r, h') := Option.some.inj hx
        cases e2
        have g := fin H locs pc lsR [.int x] (Or.inl ⟨x, .int, o1, rfl, rfl, hz, rfl⟩) W0 S0
        simp only [Nat.sub_self, Nat.add_zero] at g
        exact g
      · cases hx
  · cases hx
theorem si_lreturn : SI l D cA base b0 t0 n .lreturn := by
  intro k μ cs ls st h r h' hx pc hok p e R s m args below meth c H locs cells slots Q lsR C0 W0 S0 L0 f1 rc fin
  have o1 := okD (ok1 hok rfl) (fun _ _ => rfl)
  simp only [stp] at hx
  split at hx
  · rename_i x
    split at hx
    · rename_i hz
      have e2 : (some (Value.long x), h) = (r, h') := Option.some.inj hx
      cases e2
      have g := fin H locs pc lsR [.long x] (Or.inr (Or.inl ⟨x, o1, rfl, rfl, hz⟩)) W0 S0
      simp only [Nat.sub_self, Nat.add_zero] at g
      exact g
    · cases hx
  · cases hx
theorem si_areturn : SI l D cA base b0 t0 n .areturn := by
  intro k μ cs ls st h r h' hx pc hok p e R s m args below meth c H locs cells slots Q lsR C0 W0 S0 L0 f1 rc fin
  have o1 := okD (ok1 hok rfl) (fun _ _ => rfl)
  simp only [stp] at hx
  split at hx
  · rename_i x
    split at hx
    · rename_i hz
      have e2 : (some (Value.ref x), h) = (r, h') := Option.some.inj hx
      cases e2
      have g := fin H locs pc lsR [.ref (trA base b0 t0 x)] (Or.inr (Or.inr (Or.inl ⟨x, o1, rfl, rfl, hz⟩))) W0 S0
      simp only [Nat.sub_self, Nat.add_zero] at g
      exact g
    · cases hx
  · cases hx
theorem si_return : SI l D cA base b0 t0 n .return_ := by
  intro k μ cs ls st h r h' hx pc hok p e R s m args below meth c H locs cells slots Q lsR C0 W0 S0 L0 f1 rc fin
  have o1 := okD (ok1 hok rfl) (fun _ _ => rfl)
  simp only [stp] at hx
  split at hx
  · split at hx
    · rename_i hz
      have e2 : ((none : Option Value), h) = (r, h') := Option.some.inj hx
      cases e2
      have g := fin H locs pc lsR [] (Or.inr (Or.inr (Or.inr ⟨o1, rfl, rfl, hz⟩))) W0 S0
      simp only [Nat.sub_self, Nat.add_zero] at g
      exact g
    · cases hx
  · cases hx
end SIA
