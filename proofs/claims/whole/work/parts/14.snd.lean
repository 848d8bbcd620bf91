/-! THE SMALL MACHINE'S RUN IS THE MACHINE'S: locals -/
theorem trV_cat (base b0 t0 : Nat) (v : Value) : (trV base b0 t0 v).category = v.category := by cases v <;> rfl
theorem st1_len : ∀ (ls : LV) (i : Nat) (v : Value), (st1 ls i v).length = ls.length
  | [], _, _ => rfl
  | _ :: _, 0, _ => rfl
  | _ :: l, 1, v => congrArg (· + 1) (st1_len l 0 v)
  | _ :: l, i + 2, v => congrArg (· + 1) (st1_len l (i + 1) v)
theorem clr_some {a : Option Value} {w : Value} (h : clr a = some w) : a = some w ∧ ¬ w.category = 2 := by
  cases a with
  | none => cases h
  | some v => cases v <;> first | (cases h; done) | (cases h; exact ⟨rfl, by simp [Value.category]⟩)
theorem st1_at : ∀ (ls : LV) (i : Nat) (v : Value) (j : Nat) (w : Value), (st1 ls i v)[j]? = some (some w) → (j = i ∧ w = v) ∨ (j ≠ i ∧ ls[j]? = some (some w) ∧ ¬ (j + 1 = i ∧ w.category = 2))
  | [], i, v, j, w, h => by simp [st1] at h
  | a :: l, 0, v, 0, w, h => by
    simp [st1] at h
    exact Or.inl ⟨rfl, h.symm⟩
  | a :: l, 0, v, j + 1, w, h => by
    simp [st1] at h
    exact Or.inr ⟨by omega, by simpa using h, by omega⟩
  | a :: l, 1, v, 0, w, h => by
    simp [st1] at h
    obtain ⟨h1, h2⟩ := clr_some h
    exact Or.inr ⟨by omega, by simp [h1], fun q => h2 q.2⟩
  | a :: l, 1, v, j + 1, w, h => by
    have h : (st1 l 0 v)[j]? = some (some w) := by simpa [st1] using h
    rcases st1_at l 0 v j w h with ⟨rfl, rfl⟩ | ⟨q1, q2, q3⟩
    · exact Or.inl ⟨rfl, rfl⟩
    · exact Or.inr ⟨by omega, by simpa using q2, by omega⟩
  | a :: l, i + 2, v, 0, w, h => by
    simp [st1] at h
    exact Or.inr ⟨by omega, by simp [h], by omega⟩
  | a :: l, i + 2, v, j + 1, w, h => by
    have h : (st1 l (i + 1) v)[j]? = some (some w) := by simpa [st1] using h
    rcases st1_at l (i + 1) v j w h with ⟨rfl, rfl⟩ | ⟨q1, q2, q3⟩
    · exact Or.inl ⟨rfl, rfl⟩
    · exact Or.inr ⟨by omega, by simpa using q2, fun q => q3 ⟨by omega, q.2⟩⟩
theorem st2_at {ls : LV} {i : Nat} {v : Value} {j : Nat} {w : Value} (h : (st2 ls i v)[j]? = some (some w)) : (j = i ∧ w = v) ∨ (j ≠ i ∧ j ≠ i + 1 ∧ ls[j]? = some (some w) ∧ ¬ (j + 1 = i ∧ w.category = 2)) := by
  unfold st2 at h
  by_cases e : j = i + 1
  · subst e
    rw [List.getElem?_set] at h
    simp at h
  · rw [List.getElem?_set_ne (fun q => e q.symm)] at h
    rcases st1_at _ _ _ _ _ h with q | ⟨q1, q2, q3⟩
    · exact Or.inl q
    · exact Or.inr ⟨q1, e, q2, q3⟩
def LR (base b0 t0 k : Nat) (ls : LV) (lsR : Array Slot) : Prop := ls.length = mX k ∧ ∃ lv, lv_has lsR (mX k) lv ∧ ∀ i v, ls[i]? = some (some v) → (i, trV base b0 t0 v) ∈ lv
section LRS
variable {base b0 t0 k : Nat} {ls : LV} {lsR : Array Slot}
theorem getD_some {i : Nat} {v : Value} (h : ls.getD i none = some v) : ls[i]? = some (some v) := by
  rw [List.getD_eq_getElem?_getD] at h
  cases e : ls[i]? with
  | none => rw [e] at h; cases h
  | some w => rw [e] at h; exact congrArg some h
theorem LR.at (hl : LR base b0 t0 k ls lsR) {i : Nat} {v : Value} (h : ls.getD i none = some v) : lsR[i]? = some (.val (trV base b0 t0 v)) := by
  obtain ⟨-, lv, h1, h2⟩ := hl
  exact h1.2.2 _ (h2 i v (getD_some h))
theorem LR.s1 (hn : ls.length = mX k) {lv : List (Nat × Value)} (h2 : ∀ i v, ls[i]? = some (some v) → (i, trV base b0 t0 v) ∈ lv) {i : Nat} {v : Value} {ls' : Array Slot} (h' : lv_has ls' (mX k) ((i, trV base b0 t0 v) :: lv.filter (fun q => !(q.1 == i) && !(q.1 + 1 == i && q.2.category == 2)))) : LR base b0 t0 k (st1 ls i v) ls' := by
  refine ⟨by rw [st1_len]; exact hn, _, h', fun j w hj => ?_⟩
  rcases st1_at ls i v j w hj with ⟨rfl, rfl⟩ | ⟨q1, q2, q3⟩
  · exact List.mem_cons_self
  · refine List.mem_cons_of_mem _ (List.mem_filter.mpr ⟨h2 j w q2, ?_⟩)
    simp only [trV_cat]
    by_cases e : j + 1 = i
    · have : ¬ w.category = 2 := fun q => q3 ⟨e, q⟩
      simp [q1, this]
    · simp [q1, e]
theorem LR.s2 (hn : ls.length = mX k) {lv : List (Nat × Value)} (h2 : ∀ i v, ls[i]? = some (some v) → (i, trV base b0 t0 v) ∈ lv) {i : Nat} {v : Value} {ls' : Array Slot} (h' : lv_has ls' (mX k) ((i, trV base b0 t0 v) :: lv.filter (fun q => !(q.1 == i) && (!(q.1 == i + 1) && !(q.1 + 1 == i && q.2.category == 2))))) : LR base b0 t0 k (st2 ls i v) ls' := by
  refine ⟨by unfold st2; rw [List.length_set, st1_len]; exact hn, _, h', fun j w hj => ?_⟩
  rcases st2_at hj with ⟨rfl, rfl⟩ | ⟨q1, q1b, q2, q3⟩
  · exact List.mem_cons_self
  · refine List.mem_cons_of_mem _ (List.mem_filter.mpr ⟨h2 j w q2, ?_⟩)
    simp only [trV_cat]
    by_cases e : j + 1 = i
    · have : ¬ w.category = 2 := fun q => q3 ⟨e, q⟩
      simp [q1, q1b, this]
    · simp [q1, q1b, e]
end LRS
/-! what the blocks' check gives -/
theorem ok2 {k pc : Nat} {i : IR} {cs : List IR} (h : okL k pc (i :: cs) = true) (hd : okL k pc (i :: cs) = (okI k pc i && (isE i || okL k (pc + xl i) cs))) (he : isE i = false) : okI k pc i = true ∧ okL k (pc + xl i) cs = true := by
  rw [hd, he] at h
  simpa using h
theorem ok1 {k pc : Nat} {i : IR} {cs : List IR} (h : okL k pc (i :: cs) = true) (hd : okL k pc (i :: cs) = (okI k pc i && (isE i || okL k (pc + xl i) cs))) : okI k pc i = true := by
  rw [hd] at h
  simp only [Bool.and_eq_true] at h
  exact h.1
theorem okT {k pc : Nat} {i : IR} (h : okI k pc i = true) : ∃ raw len, decode (mB k) pc = .ok (raw, len) ∧ okR k pc i raw len = true := by
  unfold okI at h
  split at h
  · rename_i raw len e
    exact ⟨raw, len, e, h⟩
  · cases h
theorem okD {k pc : Nat} {i : IR} (h : okI k pc i = true) (hr : ∀ raw len, okR k pc i raw len = (decide (raw = i) && len == xl i)) : decode (mB k) pc = .ok (i, xl i) := by
  obtain ⟨raw, len, e, h⟩ := okT h
  rw [hr] at h
  simp only [Bool.and_eq_true, decide_eq_true_eq, beq_iff_eq] at h
  rw [e, h.1, h.2]
theorem lab_ok {k : Nat} {t : Int} (h : lab k t = true) : 0 ≤ t ∧ okL k t.toNat (blk k t.toNat) = true := by
  unfold lab at h
  simp only [Bool.and_eq_true, decide_eq_true_eq] at h
  exact ⟨h.1, okAll k _ (List.contains_iff_mem.mp h.2)⟩
theorem sum4 (base b0 t0 : Nat) : ∀ (st : List Value), ((st.map (trV base b0 t0)).map fun v => v.category).sum ≤ 2 * st.length
  | [] => Nat.le_refl _
  | v :: st => by
    have h := sum4 base b0 t0 st
    have h1 : (trV base b0 t0 v).category ≤ 2 := by rw [trV_cat]; cases v <;> simp [Value.category]
    simp only [List.map_cons, List.sum_cons, List.length_cons]
    omega
/-! the context of a method's walk -/
def CX (k : Nat) (p : Program) (s : State) (m : MethodId) (args : Array Value) (meth : Method) (c : Code) : Prop :=
  p.tables.exec = Jvm.exec ∧ c.code = mB k ∧ c.maxLocals = mX k ∧ s.vm.findClass (cN (mC k)) = some m.cls ∧ ((mY k).name = "<init>" → meth.name = "<init>") ∧ ∀ w ∈ TB, w.before args s = true
def RT (base b0 t0 k pc : Nat) (st : List Value) (r : Option Value) : Prop :=
  (∃ x ty, decode (mB k) pc = .ok (.ireturn, 1) ∧ st = [.int x] ∧ r = some (.int x) ∧ mR k = some ty ∧ narrow ty (.int x) = .int x) ∨
  (∃ x, decode (mB k) pc = .ok (.lreturn, 1) ∧ st = [.long x] ∧ r = some (.long x) ∧ mR k = some .long) ∨
  (∃ x, decode (mB k) pc = .ok (.areturn, 1) ∧ st = [.ref (trA base b0 t0 x)] ∧ r = some (.ref x) ∧ mR k = some (.object RX7)) ∨
  (decode (mB k) pc = .ok (.return_, 1) ∧ st = [] ∧ r = none ∧ mR k = none)
/-- from a state of the small machine, whose run ends with (r, h'), the machine comes to Q, if it does from that end -/
def GO (l : Launch) (D : va_G) (cA : Nat → ClassId) (base b0 t0 k μ pc : Nat) (ls : LV) (st : List Value) (h : MH) (r : Option Value) (h' : MH) : Prop :=
  ∀ (p : Program) (e : Env) (R : Room) (s : State) (m : MethodId) (args : Array Value) (below : List Frame) (meth : Method) (c : Code) (H : Heap) (locs : List Loc) (cells slots : Nat) (Q : State → Prop) (lsR : Array Slot),
  CX k p s m args meth c → Wd D cA base b0 t0 h s H → va_S (Aq base) s.heap H locs → LR base b0 t0 k ls lsR → (2 ≤ μ ∧ μ ≤ R.frames ∧ 64 * μ ≤ R.locals) →
  (cells + (h'.1.length - h.1.length) ≤ R.cells ∧ slots + (szH h' - szH h) ≤ R.slots) →
  (∀ (H' : Heap) (locs' : List Loc) (pc' : Nat) (lsR' : Array Slot) (st' : List Value), RT base b0 t0 k pc' st' r → Wd D cA base b0 t0 h' s H' → va_S (Aq base) s.heap H' locs' → W p l e R s m args below meth c H' locs' (cells + (h'.1.length - h.1.length)) (slots + (szH h' - szH h)) Q (F0 m pc' lsR' st')) →
  W p l e R s m args below meth c H locs cells slots Q (F0 m pc lsR (st.map (trV base b0 t0)))
def SG (l : Launch) (D : va_G) (cA : Nat → ClassId) (base b0 t0 n : Nat) : Prop :=
  ∀ (k μ : Nat) (cs : List IR) (ls : LV) (st : List Value) (h : MH) (r : Option Value) (h' : MH), xec n k μ cs ls st h = some (r, h') → ∀ pc : Nat, okL k pc cs = true → GO l D cA base b0 t0 k μ pc ls st h r h'
/-- one instruction, over runs that are shorter -/
def SI (l : Launch) (D : va_G) (cA : Nat → ClassId) (base b0 t0 n : Nat) (i : IR) : Prop :=
  ∀ (k μ : Nat) (cs : List IR) (ls : LV) (st : List Value) (h : MH) (r : Option Value) (h' : MH), KK (xec n) k μ (stp k i cs ls st h) = some (r, h') → ∀ pc : Nat, okL k pc (i :: cs) = true → GO l D cA base b0 t0 k μ pc ls st h r h'
section SIS
variable {l : Launch} {D : va_G} {cA : Nat → ClassId} {base b0 t0 n : Nat} (ih : SG l D cA base b0 t0 n)
theorem si_iconst (v : Int) : SG l D cA base b0 t0 n → SI l D cA base b0 t0 n (.iconst v) := by
  intro ih k μ cs ls st h r h' hx pc hok p e R s m args below meth c H locs cells slots Q lsR C0 W0 S0 L0 f1 rc fin
  obtain ⟨o1, o2⟩ := ok2 hok rfl rfl
  exact lv_iconst C0.1 C0.2.1 (okD o1 (fun _ _ => rfl)) rfl (ih k μ cs ls _ h r h' hx _ o2 p e R s m args below meth c H locs cells slots Q lsR C0 W0 S0 L0 f1 rc fin)
theorem si_iadd : SG l D cA base b0 t0 n → SI l D cA base b0 t0 n .iadd := by
  intro ih k μ cs ls st h r h' hx pc hok p e R s m args below meth c H locs cells slots Q lsR C0 W0 S0 L0 f1 rc fin
  obtain ⟨o1, o2⟩ := ok2 hok rfl rfl
  obtain ⟨y, x, st', rfl, hx⟩ := o2_inv (f := fun a b => a + b) hx
  exact lv_iadd C0.1 C0.2.1 (okD o1 (fun _ _ => rfl)) (ih k μ cs ls _ h r h' hx _ o2 p e R s m args below meth c H locs cells slots Q lsR C0 W0 S0 L0 f1 rc fin)
theorem si_iload (i : Nat) : SG l D cA base b0 t0 n → SI l D cA base b0 t0 n (.iload i) := by
  intro ih k μ cs ls st h r h' hx pc hok p e R s m args below meth c H locs cells slots Q lsR C0 W0 S0 L0 f1 rc fin
  obtain ⟨o1, o2⟩ := ok2 hok rfl rfl
  obtain ⟨v, hv, hx⟩ := ldi_inv hx
  exact lv_iload C0.1 C0.2.1 (okD o1 (fun _ _ => rfl)) (L0.at hv) (ih k μ cs ls _ h r h' hx _ o2 p e R s m args below meth c H locs cells slots Q lsR C0 W0 S0 L0 f1 rc fin)
theorem si_istore (i : Nat) : SG l D cA base b0 t0 n → SI l D cA base b0 t0 n (.istore i) := by
  intro ih k μ cs ls st h r h' hx pc hok p e R s m args below meth c H locs cells slots Q lsR C0 W0 S0 L0 f1 rc fin
  obtain ⟨o1, o2⟩ := ok2 hok rfl rfl
  obtain ⟨v, st', rfl, hi, hx⟩ := sti_inv hx
  obtain ⟨hn, lv, hl1, hl2⟩ := L0
  exact lv_istore C0.1 C0.2.1 (okD o1 (fun _ _ => rfl)) hl1 (hn ▸ hi) rfl (fun ls' hl' => ih k μ cs _ _ h r h' hx _ o2 p e R s m args below meth c H locs cells slots Q ls' C0 W0 S0 (LR.s1 (v := .int v) hn hl2 hl') f1 rc fin)
theorem si_if (cc : Jvm.ClassFile.Cond) (t : Int) : SG l D cA base b0 t0 n → SI l D cA base b0 t0 n (.ifCond cc t) := by
  intro ih k μ cs ls st h r h' hx pc hok p e R s m args below meth c H locs cells slots Q lsR C0 W0 S0 L0 f1 rc fin
  obtain ⟨o1, o2⟩ := ok2 hok rfl rfl
  obtain ⟨raw, len, hd, o1⟩ := okT o1
  have o1 : (decide (raw = .ifCond cc (t - pc)) && (len == 3 && lab k t)) = true := o1
  simp only [Bool.and_eq_true, decide_eq_true_eq, beq_iff_eq] at o1
  obtain ⟨rfl, rfl, hl⟩ := o1
  obtain ⟨ht, o3⟩ := lab_ok hl
  obtain ⟨v, st', rfl, hx1, hx2⟩ := bf_inv hx
  have hto : (pc : Int) + (t - pc) = (t.toNat : Int) := by omega
  have A1 : cnd cc v 0 → W p l e R s m args below meth c H locs cells slots Q (F0 m t.toNat lsR (st'.map (trV base b0 t0))) := fun q => ih k μ _ ls _ h r h' (hx1 q) _ o3 p e R s m args below meth c H locs cells slots Q lsR C0 W0 S0 L0 f1 rc fin
  have A2 : ¬ cnd cc v 0 → W p l e R s m args below meth c H locs cells slots Q (F0 m (pc + 3) lsR (st'.map (trV base b0 t0))) := fun q => ih k μ cs ls _ h r h' (hx2 q) _ o2 p e R s m args below meth c H locs cells slots Q lsR C0 W0 S0 L0 f1 rc fin
  cases cc
  · exact lv_if_eq C0.1 C0.2.1 hd hto A1 A2
  · exact lv_if_ne C0.1 C0.2.1 hd hto A1 (fun q => A2 (fun z => z q))
  · exact lv_if_lt C0.1 C0.2.1 hd hto A1 A2
  · exact lv_if_ge C0.1 C0.2.1 hd hto A1 A2
  · exact lv_if_gt C0.1 C0.2.1 hd hto A1 A2
  · exact lv_if_le C0.1 C0.2.1 hd hto A1 A2
end SIS
