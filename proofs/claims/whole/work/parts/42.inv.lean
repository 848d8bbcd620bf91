/-! frames by lists of what is written and what is read -/
def dj1 (q r : Nat × Option Nat) : Bool := q.1 != r.1 || (match q.2, r.2 with
  | some i, some j => i != j
  | _, _ => false)
def dj (l R : WL) : Bool := l.all (fun q => R.all (fun r => dj1 q r))
theorem dj_wr {l R : WL} {a k : Nat} (d : dj l R = true) (r : wr R a k = true) : wr l a k = false := by
  unfold wr at r ⊢
  rw [List.any_eq_true] at r
  obtain ⟨x, hx, r⟩ := r
  rw [List.any_eq_false]
  intro q hq z
  have d1 := List.all_eq_true.mp (List.all_eq_true.mp d q hq) x hx
  obtain ⟨q1, q2⟩ := q
  obtain ⟨x1, x2⟩ := x
  unfold wr1 at r z
  unfold dj1 at d1
  simp only [Bool.and_eq_true, beq_iff_eq] at r z
  obtain ⟨r1, r2⟩ := r
  obtain ⟨z1, z2⟩ := z
  subst r1
  subst z1
  simp only [bne_self_eq_false, Bool.false_or] at d1
  cases q2 with
  | none => cases x2 <;> simp at d1
  | some i => cases x2 with
    | none => simp at d1
    | some j =>
      simp only [beq_iff_eq] at r2 z2
      subst r2
      subst z2
      simp at d1
def Fr (h h' : MH) (l : WL) : Prop := ∀ a k, a < 112 → wr l a k = false → gI h' a k = gI h a k ∧ gL h' a k = gL h a k ∧ gR h' a k = gR h a k
theorem Sm.fr {h h' : MH} {l : WL} (s : Sm h h' l) : Fr h h' l := fun a k _ q => s.2 a k q
theorem Fr.trans {h h1 h2 : MH} {l : WL} (a : Fr h h1 l) (b : Fr h1 h2 l) : Fr h h2 l := fun x k hx q => ⟨(b x k hx q).1.trans (a x k hx q).1, (b x k hx q).2.1.trans (a x k hx q).2.1, (b x k hx q).2.2.trans (a x k hx q).2.2⟩
theorem Fr.mono {h h' : MH} {l l' : WL} (a : Fr h h' l) (hl : ∀ q ∈ l, q ∈ l') : Fr h h' l' := fun x k hx q => a x k hx (wr_mono hl q)
theorem Fr.I {h h' : MH} {l R : WL} (f : Fr h h' l) (d : dj l R = true) {a k : Nat} (ha : a < 112) (r : wr R a k = true) : gI h' a k = gI h a k := (f a k ha (dj_wr d r)).1
theorem Fr.R {h h' : MH} {l R : WL} (f : Fr h h' l) (d : dj l R = true) {a k : Nat} (ha : a < 112) (r : wr R a k = true) : gR h' a k = gR h a k := (f a k ha (dj_wr d r)).2.2
def RC : WL := [(2, some 7), (46, some 0), (46, some 1), (53, some 0), (47, none), (49, none), (50, none), (51, none)] ++ (List.range 40).map (fun i => (i + 3, none))
theorem RC_o {a k : Nat} (h1 : 3 ≤ a) (h2 : a ≤ 42) : wr RC a k = true := by
  unfold wr
  rw [List.any_eq_true]
  refine ⟨(a, none), ?_, by simp [wr1]⟩
  unfold RC
  rw [List.mem_append]
  right
  rw [List.mem_map]
  exact ⟨a - 3, by rw [List.mem_range]; omega, by rw [show a - 3 + 3 = a by omega]⟩
theorem LawC.fr {h h' : MH} {o : Nat} {L : LD} {l : WL} (hC : LawC h o L) (s : Fr h h' l) (d : dj l RC = true) : LawC h' o L := by
  obtain ⟨⟨a1, a2, a3, a4⟩, ⟨b1, b2, b3, b4⟩, c1, c2, c3, c4, ⟨d1, d2, d3, d4, d5⟩, e1, e2, e3⟩ := hC
  have hr := Oo_rng a1
  have I : ∀ {a k : Nat}, 3 ≤ a → a ≤ 42 → gI h' a k = gI h a k := fun q1 q2 => s.I d (by omega) (RC_o q1 q2)
  have J : ∀ {a k : Nat}, a < 112 → wr RC a k = true → gI h' a k = gI h a k := fun q1 q2 => s.I d q1 q2
  have R : ∀ {a k : Nat}, a < 112 → wr RC a k = true → gR h' a k = gR h a k := fun q1 q2 => s.R d q1 q2
  refine ⟨⟨a1, by rw [R (by omega) rfl]; exact a2, by rw [R (by omega) rfl]; exact a3, by rw [R (by omega) rfl]; exact a4⟩, ⟨by rw [I (by omega) (by omega)]; exact b1, by rw [I (by omega) (by omega)]; exact b2, by rw [I (by omega) (by omega)]; exact b3, by rw [J (by omega) rfl]; exact b4⟩, fun t ht => by rw [I (by omega) (by omega)]; exact c1 t ht, fun t ht => by rw [I (by omega) (by omega)]; exact c2 t ht, fun c hc => ?_, fun c hc => by rw [I (by omega) (by omega)]; exact c4 c hc, ⟨by rw [I (by omega) (by omega)]; exact d1, by rw [I (by omega) (by omega)]; exact d2, by rw [I (by omega) (by omega)]; exact d3, by rw [I (by omega) (by omega)]; exact d4, by rw [I (by omega) (by omega)]; exact d5⟩, fun k hk => ?_, fun c hc => by rw [J (by omega) rfl]; exact e2 c hc, fun t ht => by rw [J (by omega) rfl]; exact e3 t ht⟩
  · rw [I (by omega) (by omega), I (by omega) (by omega), I (by omega) (by omega), I (by omega) (by omega)]; exact c3 c hc
  · rw [J (by omega) rfl, J (by omega) rfl]; exact e1 k hk
def RM : WL := [(66, some 50), (66, some 51), (66, some 52), (66, some 58), (66, some 55), (66, some 53), (66, some 56), (66, some 57), (66, some 22), (84, none), (86, none), (87, none), (89, none), (90, none), (91, none), (92, none), (93, none)]
theorem LawM.fr {h h' : MH} {L : LD} {l : WL} (hM : LawM h L) (s : Fr h h' l) (d : dj l RM = true) : LawM h' L := by
  obtain ⟨⟨a1, a2, a3, a4⟩, b1, b2, b3, ⟨c1, c2, c3, c4, c5⟩, d1, d2⟩ := hM
  have I : ∀ {a k : Nat}, a < 112 → wr RM a k = true → gI h' a k = gI h a k := fun q1 q2 => s.I d q1 q2
  refine ⟨⟨by rw [I (by omega) rfl]; exact a1, by rw [I (by omega) rfl]; exact a2, by rw [I (by omega) rfl]; exact a3, by rw [I (by omega) rfl]; exact a4⟩, fun t ht => by rw [I (by omega) rfl]; exact b1 t ht, fun t ht => by rw [I (by omega) rfl]; exact b2 t ht, fun c hc => ?_, ⟨by rw [I (by omega) rfl]; exact c1, by rw [I (by omega) rfl]; exact c2, by rw [I (by omega) rfl]; exact c3, by rw [I (by omega) rfl]; exact c4, by rw [I (by omega) rfl]; exact c5⟩, fun k hk => by rw [I (by omega) rfl]; exact d1 k hk, fun c hc => by rw [I (by omega) rfl]; exact d2 c hc⟩
  rw [I (by omega) rfl, I (by omega) rfl, I (by omega) rfl, I (by omega) rfl]; exact b3 c hc
def RO : WL := [(52, none)]
theorem Memo.fr {h h' : MH} {L : LD} {l : WL} (hM : Memo h L) (s : Fr h h' l) (d : dj l RO = true) : Memo h' L := fun x hx => by
  rw [s.I d (by omega) rfl]; exact hM x hx
def RS : WL := [(53, some 2), (54, none), (94, none)]
theorem rowM_fr {h h' : MH} {l : WL} (s : Fr h h' l) (d : dj l RS = true) : rowM h' = rowM h := funext fun j => s.I d (by omega) rfl
theorem rowC_fr {h h' : MH} {l : WL} {p : Nat} (s : Fr h h' l) (d : dj l RS = true) : rowC h' p = rowC h p := funext fun j => s.I d (by omega) rfl
theorem SeaR.fr {h h' : MH} {p : Nat} {L : LD} {l : WL} (hs : SeaR p L h) (s : Fr h h' l) (d : dj l RS = true) : SeaR p L h' := by
  unfold SeaR
  rw [s.I d (by omega) rfl, rowC_fr s d, rowM_fr s d]
  exact hs
theorem bears_fr {h h' : MH} {L : LD} {l : WL} (s : Fr h h' l) (d : dj l RS = true) : bears L h' = bears L h := by
  unfold bears
  rw [rowM_fr s d]
theorem dj_app {l R S : WL} (d : dj l (R ++ S) = true) : dj l R = true ∧ dj l S = true := by
  unfold dj at *
  rw [List.all_eq_true] at d
  constructor <;> rw [List.all_eq_true] <;> intro q hq <;> have := d q hq <;> rw [List.all_append, Bool.and_eq_true] at this
  · exact this.1
  · exact this.2
theorem QI.fr {h h' : MH} {o p : Nat} {L : LD} {l : WL} (hI : QI o p L h) (hS : St h') (s : Fr h h' l) (d : dj l (RC ++ (RM ++ (RO ++ RS))) = true) : QI o p L h' := by
  obtain ⟨d1, d⟩ := dj_app d
  obtain ⟨d2, d⟩ := dj_app d
  obtain ⟨d3, d4⟩ := dj_app d
  exact ⟨⟨hS, hI.1.2.1, hI.1.2.2.1.fr s d1, hI.1.2.2.2.fr s d3⟩, hI.2.1.fr s d2, hI.2.2.fr s d4⟩
/-! the tapes, the faults, wishes, judgements -/
def Tap (h : MH) : Prop := ∃ n, n ≤ 1600 ∧ gI h 43 1 = nI n ∧ gI h 66 1 = nI n ∧ ∀ i, i < n → ∃ b, b < 256 ∧ gI h 67 i = nI b ∧ gI h 44 i = (nI b).toInt8.toInt32
def RTp : WL := [(43, some 1), (66, some 1), (44, none), (67, none)]
theorem Tap.fr {h h' : MH} {l : WL} (hX : Tap h) (s : Fr h h' l) (d : dj l RTp = true) : Tap h' := by
  obtain ⟨n, a1, a2, a3, a4⟩ := hX
  have I : ∀ {a k : Nat}, a < 112 → wr RTp a k = true → gI h' a k = gI h a k := fun q1 q2 => s.I d q1 q2
  refine ⟨n, a1, by rw [I (by omega) rfl]; exact a2, by rw [I (by omega) rfl]; exact a3, fun i hi => ?_⟩
  rw [I (by omega) rfl, I (by omega) rfl]; exact a4 i hi
def Flt (h : MH) : Prop := gI h 45 4 = gI h 66 2 ∧ gI h 45 5 = gI h 66 3 ∧ ((gR h 2 7 = .ref 3 ∧ gR h 2 8 = .ref 23) ∨ (gR h 2 7 = .ref 23 ∧ gR h 2 8 = .ref 3)) ∧ (∀ i, i < 20 → gL h 1 i = rsv.getD i 0) ∧ ∀ i, i < 13 → ∃ n, n ≤ 320 ∧ gI h 71 i = nI n
def RF : WL := [(45, some 4), (45, some 5), (66, some 2), (66, some 3), (2, some 7), (2, some 8), (1, none), (71, none)]
theorem Flt.fr {h h' : MH} {l : WL} (hX : Flt h) (s : Fr h h' l) (d : dj l RF = true) : Flt h' := by
  have I : ∀ {a k : Nat}, a < 112 → wr RF a k = true → gI h' a k = gI h a k := fun q1 q2 => s.I d q1 q2
  have R : ∀ {a k : Nat}, a < 112 → wr RF a k = true → gR h' a k = gR h a k := fun q1 q2 => s.R d q1 q2
  unfold Flt
  rw [I (by omega) rfl, I (by omega) rfl, I (by omega) rfl, I (by omega) rfl, R (by omega) rfl, R (by omega) rfl]
  exact ⟨hX.1, hX.2.1, hX.2.2.1, fun i hi => by rw [(s 1 i (by omega) (dj_wr d rfl)).2.1]; exact hX.2.2.2.1 i hi, fun i hi => by rw [I (by omega) rfl]; exact hX.2.2.2.2 i hi⟩
def Wsh (L : LD) (h : MH) : Prop := ∃ n, n ≤ 20 ∧ gI h 55 2 = nI n ∧ gI h 66 70 = nI n ∧ ∀ i, i < n → gI h 56 i = gI h 97 i ∧ gI h 57 i = gI h 98 i ∧ ∃ k, k < dN L ∧ gI h 97 i = nI k
def RW : WL := [(55, some 2), (66, some 70), (56, none), (57, none), (97, none), (98, none)]
theorem Wsh.fr {h h' : MH} {L : LD} {l : WL} (hX : Wsh L h) (s : Fr h h' l) (d : dj l RW = true) : Wsh L h' := by
  obtain ⟨n, a1, a2, a3, a4⟩ := hX
  have I : ∀ {a k : Nat}, a < 112 → wr RW a k = true → gI h' a k = gI h a k := fun q1 q2 => s.I d q1 q2
  refine ⟨n, a1, by rw [I (by omega) rfl]; exact a2, by rw [I (by omega) rfl]; exact a3, fun i hi => ?_⟩
  rw [I (a := 56) (by omega) rfl, I (a := 57) (by omega) rfl, I (a := 97) (by omega) rfl, I (a := 98) (by omega) rfl]; exact a4 i hi
def Jd1 (L : LD) (h : MH) (i : Nat) : Prop := (gI h 59 i = gI h 103 i ∧ gI h 60 i = gI h 104 i ∧ gI h 61 i = gI h 105 i ∧ gI h 62 i = gI h 106 i ∧ gI h 63 i = gI h 107 i) ∧ (∃ k, k < dN L ∧ gI h 104 i = nI k) ∧ (gI h 107 i = -1 ∨ ∃ u, u ≤ 100000 ∧ gI h 107 i = nI u)
def Jdg (L : LD) (h : MH) : Prop := (∃ n, n ≤ 30 ∧ gI h 58 5 = nI n ∧ gI h 66 82 = nI n ∧ ∀ i, i < n → Jd1 L h i) ∧ ∃ t, t ≤ 100000 ∧ gI h 58 6 = nI t ∧ gI h 66 83 = nI t
def RJ : WL := [(58, some 5), (58, some 6), (66, some 82), (66, some 83), (59, none), (60, none), (61, none), (62, none), (63, none), (103, none), (104, none), (105, none), (106, none), (107, none)]
theorem Jdg.fr {h h' : MH} {L : LD} {l : WL} (hX : Jdg L h) (s : Fr h h' l) (d : dj l RJ = true) : Jdg L h' := by
  obtain ⟨⟨n, a1, a2, a3, a4⟩, t, b1, b2, b3⟩ := hX
  have I : ∀ {a k : Nat}, a < 112 → wr RJ a k = true → gI h' a k = gI h a k := fun q1 q2 => s.I d q1 q2
  refine ⟨⟨n, a1, by rw [I (by omega) rfl]; exact a2, by rw [I (by omega) rfl]; exact a3, fun i hi => ?_⟩, t, b1, by rw [I (by omega) rfl]; exact b2, by rw [I (by omega) rfl]; exact b3⟩
  unfold Jd1
  rw [I (a := 59) (by omega) rfl, I (a := 60) (by omega) rfl, I (a := 61) (by omega) rfl, I (a := 62) (by omega) rfl, I (a := 63) (by omega) rfl, I (a := 103) (by omega) rfl, I (a := 104) (by omega) rfl, I (a := 105) (by omega) rfl, I (a := 106) (by omega) rfl, I (a := 107) (by omega) rfl]; exact a4 i hi
/-! what was done and can be undone; boxes -/
def Eq27 (f g : Nat → Int32) : Prop := ∀ j, j < 27 → f j = g j
def RowOK (L : LD) (f : Nat → Int32) : Prop := (∃ n, n < 2 ^ dC L ∧ f 2 = nI n) ∧ (∃ y, y ≤ 1000 ∧ f 0 = nI y) ∧ (∃ s, s < 1000 ∧ f 1 = nI s) ∧ ∀ c, dC L ≤ c → c < 12 → f (15 + c) = -1
def rowW (h : MH) (j : Nat) : Nat → Int32 := fun k => gI h 95 (j * 32 + k)
def rowB (h : MH) (j : Nat) : Nat → Int32 := fun k => gI h 111 (j * 32 + k)
def Act (p : Nat) (L : LD) (h : MH) : Prop := RowOK L (rowM h) ∧ ∃ b u r, b < 41 ∧ u + r ≤ 40 ∧ p = (b + u) % 41 ∧ gI h 53 4 = nI u ∧ gI h 66 64 = nI u ∧ gI h 53 5 = nI r ∧ gI h 66 65 = nI r ∧ (∀ j, j < u → Eq27 (rowC h ((b + j) % 41)) (rowW h j) ∧ RowOK L (rowW h j)) ∧ (∀ j, u ≤ j → j < u + r → Eq27 (rowC h ((b + j + 1) % 41)) (rowW h j) ∧ RowOK L (rowW h j))
def RA : WL := [(53, some 4), (53, some 5), (66, some 64), (66, some 65), (54, none), (94, none), (95, none)]
theorem Act.fr {h h' : MH} {p : Nat} {L : LD} {l : WL} (hX : Act p L h) (s : Fr h h' l) (d : dj l RA = true) : Act p L h' := by
  have I : ∀ {a k : Nat}, a < 112 → wr RA a k = true → gI h' a k = gI h a k := fun q1 q2 => s.I d q1 q2
  have e1 : rowM h' = rowM h := funext fun j => I (by omega) rfl
  have e2 : ∀ q, rowC h' q = rowC h q := fun q => funext fun j => I (by omega) rfl
  have e3 : ∀ q, rowW h' q = rowW h q := fun q => funext fun j => I (by omega) rfl
  unfold Act
  simp only [e1, e2, e3]
  rw [I (a := 53) (k := 4) (by omega) rfl, I (a := 53) (k := 5) (by omega) rfl, I (a := 66) (k := 64) (by omega) rfl, I (a := 66) (k := 65) (by omega) rfl]
  exact hX
def Box (L : LD) (h : MH) : Prop := ∀ b, b < 3 → (bit (gI h 53 3) b = 0 ∧ gI h 110 b = 0) ∨ (bit (gI h 53 3) b = 1 ∧ gI h 110 b = 1 ∧ Eq27 (rowC h (41 + b)) (rowB h b) ∧ RowOK L (rowB h b))
def RB : WL := [(53, some 3), (54, none), (110, none), (111, none)]
theorem Box.fr {h h' : MH} {L : LD} {l : WL} (hX : Box L h) (s : Fr h h' l) (d : dj l RB = true) : Box L h' := by
  have I : ∀ {a k : Nat}, a < 112 → wr RB a k = true → gI h' a k = gI h a k := fun q1 q2 => s.I d q1 q2
  have e2 : ∀ q, rowC h' q = rowC h q := fun q => funext fun j => I (by omega) rfl
  have e3 : ∀ q, rowB h' q = rowB h q := fun q => funext fun j => I (by omega) rfl
  intro b hb
  rw [I (a := 53) (k := 3) (by omega) rfl, I (a := 110) (by omega) rfl, e2, e3]
  exact hX b hb
/-! what lies there, the searches: cells that are made later -/
def Lyi (h : MH) : Prop := ∃ a n, gR h 64 0 = .ref a ∧ (a = 65 ∨ 112 ≤ a) ∧ kd h a = 20 ∧ (ln h a = 40 ∨ ln h a = 4096) ∧ n ≤ ln h a ∧ gI h 64 1 = nI n ∧ gI h 66 67 = nI n ∧ ∀ i, i < n → gI h a i = gI h 96 i
def Srh (h : MH) : Prop := gR h 2 9 = .null ∨ ∃ a, gR h 2 9 = .ref a ∧ 112 ≤ a ∧ kd h a = 7 ∧ (gR h a 0 = .ref (a + 1) ∧ kd h (a + 1) = 22 ∧ ln h (a + 1) = 4096) ∧ (gR h a 1 = .ref (a + 2) ∧ kd h (a + 2) = 22 ∧ ln h (a + 2) = 4096) ∧ (gR h a 2 = .ref (a + 3) ∧ kd h (a + 3) = 20 ∧ ln h (a + 3) = 102)
/-- a run that makes no cell and writes below 112 alone -/
def lo (l : WL) : Bool := l.all (fun q => decide (q.1 < 112))
theorem lo_wr {l : WL} (d : lo l = true) {a k : Nat} (ha : 112 ≤ a) : wr l a k = false := by
  unfold wr
  rw [List.any_eq_false]
  intro q hq z
  have := of_decide_eq_true (List.all_eq_true.mp d q hq)
  unfold wr1 at z
  simp only [Bool.and_eq_true, beq_iff_eq] at z
  omega
def RL : WL := [(64, some 0), (64, some 1), (65, none), (66, some 67), (96, none)]
theorem Lyi.sm {h h' : MH} {l : WL} (hX : Lyi h) (s : Sm h h' l) (d : dj l RL = true) (d2 : lo l = true) : Lyi h' := by
  obtain ⟨a, n, a1, a2, a3, a4, a5, a6, a7, a8⟩ := hX
  have I : ∀ {a k : Nat}, wr RL a k = true → gI h' a k = gI h a k := fun q2 => s.I (dj_wr d q2)
  refine ⟨a, n, by rw [s.R (dj_wr d rfl)]; exact a1, a2, by rw [Sm_kd s]; exact a3, by rw [Sm_ln s]; exact a4, by rw [Sm_ln s]; exact a5, by rw [I rfl]; exact a6, by rw [I rfl]; exact a7, fun i hi => ?_⟩
  rw [I (a := 96) rfl, ← a8 i hi]
  rcases a2 with rfl | a2
  · exact I rfl
  · exact s.I (lo_wr d2 a2)
def RH : WL := [(2, some 9)]
theorem Srh.sm {h h' : MH} {l : WL} (hX : Srh h) (s : Sm h h' l) (d : dj l RH = true) (d2 : lo l = true) : Srh h' := by
  have e : gR h' 2 9 = gR h 2 9 := s.R (dj_wr d rfl)
  rcases hX with q | ⟨a, a1, a2, a3, ⟨b1, b2, b3⟩, ⟨c1, c2, c3⟩, e1, e2, e3⟩
  · exact Or.inl (e.trans q)
  · refine Or.inr ⟨a, e.trans a1, a2, by rw [Sm_kd s]; exact a3, ⟨?_, ?_, ?_⟩, ⟨?_, ?_, ?_⟩, ?_, ?_, ?_⟩
    · rw [s.R (lo_wr d2 a2)]; exact b1
    · rw [Sm_kd s]; exact b2
    · rw [Sm_ln s]; exact b3
    · rw [s.R (lo_wr d2 a2)]; exact c1
    · rw [Sm_kd s]; exact c2
    · rw [Sm_ln s]; exact c3
    · rw [s.R (lo_wr d2 a2)]; exact e1
    · rw [Sm_kd s]; exact e2
    · rw [Sm_ln s]; exact e3
/-- no room is needed but for these -/
def Rom (h : MH) : Prop := ∃ L, L ≤ 3072 ∧ ∃ x y : Nat, (gR h 2 9 = .null ∧ x = 0 ∨ ¬ gR h 2 9 = .null ∧ x = 1) ∧ (gR h 64 0 = .ref 65 ∧ y = 0 ∨ y = 1 ∧ ∃ a, gR h 64 0 = .ref a ∧ ln h a = 4096) ∧ h.1.length ≤ 112 + 4 * x + y ∧ szH h ≤ 54700 + L + 9000 * x + 4096 * y
def RR : WL := [(2, some 9), (64, some 0)]
theorem Rom.sm {h h' : MH} {l : WL} (hX : Rom h) (s : Sm h h' l) (d : dj l RR = true) : Rom h' := by
  obtain ⟨L, hL, x, y, a1, a2, a3, a4⟩ := hX
  refine ⟨L, hL, x, y, by rw [s.R (dj_wr d rfl)]; exact a1, ?_, by rw [s.1]; exact a3, by unfold szH; rw [s.1]; exact a4⟩
  rw [s.R (dj_wr d rfl)]
  rcases a2 with q | ⟨q, a, q1, q2⟩
  · exact Or.inl q
  · exact Or.inr ⟨q, a, q1, by rw [Sm_ln s]; exact q2⟩
