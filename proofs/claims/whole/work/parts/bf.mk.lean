/-! the class's constructor, up to its last call -/
def Bz (h : MH) : Prop := ∀ a j, h.1.length ≤ a → gI h a j = 0 ∧ gL h a j = 0 ∧ gR h a j = .null
theorem Bz_nC {h : MH} {t n : Nat} (b : Bz h) : Bz (nC h t n) := fun a j ha => by
  rw [hl_nC] at ha
  show (if a = h.1.length then (0 : Int32) else gI h a j) = 0 ∧ (if a = h.1.length then (0 : Int64) else gL h a j) = 0 ∧ (if a = h.1.length then Value.null else gR h a j) = .null
  rw [if_neg (by omega), if_neg (by omega), if_neg (by omega)]
  exact b a j (by omega)
theorem Bz_sR {h : MH} {x y : Nat} {v : Value} (b : Bz h) (hx : x < h.1.length) : Bz (sR h x y v) := fun a j ha => by
  rw [hl_sR] at ha
  rw [gI_sR, gL_sR, gR_sR, if_neg (by omega)]
  exact b a j ha
theorem Bz_sI {h : MH} {x y : Nat} {v : Int32} (b : Bz h) (hx : x < h.1.length) : Bz (sI h x y v) := fun a j ha => by
  rw [hl_sI] at ha
  rw [gL_sI, gR_sI, gI_sI, if_neg (by omega)]
  exact b a j ha
def ClA (h : MH) : Prop := ∀ a j, cuV (gR h a j)
theorem ClA_nC {h : MH} {t n : Nat} (b : ClA h) : ClA (nC h t n) := fun a j => by
  rw [gR_nC]
  split
  · exact fun z e => by cases e
  · exact b a j
theorem ClA_sR {h : MH} {x y z : Nat} (b : ClA h) (hz : z < 66) : ClA (sR h x y (.ref z)) := fun a j => by
  rw [gR_sR]
  split
  · exact cuV_r hz
  · exact b a j
theorem ClA_sI {h : MH} {x y : Nat} {v : Int32} (b : ClA h) : ClA (sI h x y v) := b
/-- same lengths, same references, same numbers but for the script -/
def Sq9 (h h' : MH) : Prop := h.1.length = h'.1.length ∧ (∀ a j, gR h a j = gR h' a j ∧ gL h a j = gL h' a j) ∧ ∀ a j, ¬ a = 0 → gI h a j = gI h' a j
theorem Sq9_nC {h h' : MH} {t n : Nat} (s : Sq9 h h') : Sq9 (nC h t n) (nC h' t n) := by
  obtain ⟨s1, s2, s3⟩ := s
  refine ⟨by rw [hl_nC, hl_nC, s1], fun a j => ?_, fun a j ha => ?_⟩
  · show (if a = h.1.length then Value.null else gR h a j) = (if a = h'.1.length then Value.null else gR h' a j) ∧ (if a = h.1.length then (0 : Int64) else gL h a j) = (if a = h'.1.length then (0 : Int64) else gL h' a j)
    rw [s1, (s2 a j).1, (s2 a j).2]
    exact ⟨rfl, rfl⟩
  · show (if a = h.1.length then (0 : Int32) else gI h a j) = (if a = h'.1.length then (0 : Int32) else gI h' a j)
    rw [s1, s3 a j ha]
theorem Sq9_sR {h h' : MH} {x y : Nat} {v : Value} (s : Sq9 h h') : Sq9 (sR h x y v) (sR h' x y v) := by
  obtain ⟨s1, s2, s3⟩ := s
  refine ⟨s1, fun a j => ?_, s3⟩
  rw [gR_sR, gR_sR, gL_sR, gL_sR, (s2 a j).1, (s2 a j).2]
  exact ⟨rfl, rfl⟩
theorem Sq9_sI {h h' : MH} {x y : Nat} {v : Int32} (s : Sq9 h h') : Sq9 (sI h x y v) (sI h' x y v) := by
  obtain ⟨s1, s2, s3⟩ := s
  refine ⟨s1, s2, fun a j ha => ?_⟩
  rw [gI_sI, gI_sI, s3 a j ha]
def rfN (v : Value) : Nat := match v with
  | .ref b => b + 1
  | _ => 0
theorem rfN_e {v : Value} {b : Nat} (h : rfN v = b + 1) : v = .ref b := by
  unfold rfN at h
  split at h
  · rename_i c
    have : c = b := Nat.succ.inj h
    rw [this]
  · cases h
def taN (h : MH) (a : Nat) : MH := (sR (nC h 23 1600) a 0 (.ref (h.1.length)))
def lyN (h : MH) (a : Nat) : MH := (sR (nC h 20 40) a 0 (.ref (h.1.length)))
def wiN (h : MH) (a : Nat) : MH := (sR (nC (sR (nC h 20 20) a 0 (.ref (h.1.length))) 20 20) a 1 (.ref (h.1.length + 1)))
def juN (h : MH) (a : Nat) : MH := (sR (nC (sR (nC (sR (nC (sR (nC (sR (nC h 20 30) a 0 (.ref (h.1.length))) 20 30) a 1 (.ref (h.1.length + 1))) 20 30) a 2 (.ref (h.1.length + 2))) 20 30) a 3 (.ref (h.1.length + 3))) 20 30) a 4 (.ref (h.1.length + 4)))
def reN (h : MH) (a x y : Nat) : MH := (sR (sR (sI h a 5 (-1)) a 0 (.ref (x))) a 1 (.ref (y)))
def snN (h : MH) (a x : Nat) : MH := (sR (sR (nC h 20 1188) a 1 (.ref (h.1.length))) a 0 (.ref (x)))
def caN (h : MH) (a x : Nat) : MH := (sR (sR (nC (sR (nC (sR (nC (sR (nC (sR (nC (sR (nC h 20 4) a 2 (.ref (h.1.length))) 20 4) a 3 (.ref (h.1.length + 1))) 22 256) a 4 (.ref (h.1.length + 2))) 20 256) a 5 (.ref (h.1.length + 3))) 20 12) a 6 (.ref (h.1.length + 4))) 22 4096) a 7 (.ref (h.1.length + 5))) a 0 (.ref (x)))
theorem nC1 (h : MH) (t n : Nat) : (nC h t n).1 = h.1 ++ [(t, n)] := rfl
theorem sh_or {h : MH} {a : Nat} : (orN h a).1 = h.1 ++ [(4, 2), (21, 4), (20, 4), (4, 2), (21, 3), (20, 3), (20, 3), (4, 2), (21, 12), (20, 12), (20, 12), (20, 12), (20, 12), (20, 12), (1, 6), (22, 640), (20, 13), (20, 13), (20, 32)] := by
  unfold orN
  simp only [hl_sR, hl_sI, nC1, List.append_assoc, List.cons_append, List.nil_append]
theorem hl_or {h : MH} {a : Nat} : (orN h a).1.length = h.1.length + 19 := by
  rw [sh_or, List.length_append]
  rfl
theorem Bz_or {h : MH} {a : Nat} (b : Bz h) (ha : a < h.1.length) : Bz (orN h a) := by
  unfold orN
  exact Bz_sI (Bz_sR (Bz_sR (Bz_nC (Bz_sR (Bz_nC (Bz_sR (Bz_nC (Bz_sR (Bz_nC (Bz_nC (Bz_sR (Bz_nC (Bz_sR (Bz_nC (Bz_sR (Bz_nC (Bz_sR (Bz_nC (Bz_sR (Bz_nC (Bz_sR (Bz_sR (Bz_nC (Bz_nC (Bz_sR (Bz_nC (Bz_sR (Bz_nC (Bz_sR (Bz_sR (Bz_nC (Bz_nC (Bz_sR (Bz_nC (Bz_sR (Bz_sR (Bz_nC (Bz_nC (b))) (by (try simp only [hl_sR, hl_sI, hl_nC]); omega)) (by (try simp only [hl_sR, hl_sI, hl_nC]); omega))) (by (try simp only [hl_sR, hl_sI, hl_nC]); omega)))) (by (try simp only [hl_sR, hl_sI, hl_nC]); omega)) (by (try simp only [hl_sR, hl_sI, hl_nC]); omega))) (by (try simp only [hl_sR, hl_sI, hl_nC]); omega))) (by (try simp only [hl_sR, hl_sI, hl_nC]); omega)))) (by (try simp only [hl_sR, hl_sI, hl_nC]); omega)) (by (try simp only [hl_sR, hl_sI, hl_nC]); omega))) (by (try simp only [hl_sR, hl_sI, hl_nC]); omega))) (by (try simp only [hl_sR, hl_sI, hl_nC]); omega))) (by (try simp only [hl_sR, hl_sI, hl_nC]); omega))) (by (try simp only [hl_sR, hl_sI, hl_nC]); omega))) (by (try simp only [hl_sR, hl_sI, hl_nC]); omega)))) (by (try simp only [hl_sR, hl_sI, hl_nC]); omega))) (by (try simp only [hl_sR, hl_sI, hl_nC]); omega))) (by (try simp only [hl_sR, hl_sI, hl_nC]); omega))) (by (try simp only [hl_sR, hl_sI, hl_nC]); omega)) (by (try simp only [hl_sR, hl_sI, hl_nC]); omega)) (by (try simp only [hl_sR, hl_sI, hl_nC]); omega)
theorem ClA_or {h : MH} {a : Nat} (b : ClA h) (hl : h.1.length + 19 ≤ 66) : ClA (orN h a) := by
  unfold orN
  exact ClA_sI (ClA_sR (ClA_sR (ClA_nC (ClA_sR (ClA_nC (ClA_sR (ClA_nC (ClA_sR (ClA_nC (ClA_nC (ClA_sR (ClA_nC (ClA_sR (ClA_nC (ClA_sR (ClA_nC (ClA_sR (ClA_nC (ClA_sR (ClA_nC (ClA_sR (ClA_sR (ClA_nC (ClA_nC (ClA_sR (ClA_nC (ClA_sR (ClA_nC (ClA_sR (ClA_sR (ClA_nC (ClA_nC (ClA_sR (ClA_nC (ClA_sR (ClA_sR (ClA_nC (ClA_nC (b))) (by omega)) (by omega))) (by omega)))) (by omega)) (by omega))) (by omega))) (by omega)))) (by omega)) (by omega))) (by omega))) (by omega))) (by omega))) (by omega))) (by omega)))) (by omega))) (by omega))) (by omega))) (by omega)) (by omega))
theorem Sq9_or {h h' : MH} {a : Nat} (s : Sq9 h h') : Sq9 (orN h a) (orN h' a) := by
  have e := s.1
  unfold orN
  (try rw [e])
  exact Sq9_sI (Sq9_sR (Sq9_sR (Sq9_nC (Sq9_sR (Sq9_nC (Sq9_sR (Sq9_nC (Sq9_sR (Sq9_nC (Sq9_nC (Sq9_sR (Sq9_nC (Sq9_sR (Sq9_nC (Sq9_sR (Sq9_nC (Sq9_sR (Sq9_nC (Sq9_sR (Sq9_nC (Sq9_sR (Sq9_sR (Sq9_nC (Sq9_nC (Sq9_sR (Sq9_nC (Sq9_sR (Sq9_nC (Sq9_sR (Sq9_sR (Sq9_nC (Sq9_nC (Sq9_sR (Sq9_nC (Sq9_sR (Sq9_sR (Sq9_nC (Sq9_nC (s)))))))))))))))))))))))))))))))))))))))
theorem sh_ta {h : MH} {a : Nat} : (taN h a).1 = h.1 ++ [(23, 1600)] := by
  unfold taN
  simp only [hl_sR, hl_sI, nC1, List.append_assoc, List.cons_append, List.nil_append]
theorem hl_ta {h : MH} {a : Nat} : (taN h a).1.length = h.1.length + 1 := by
  rw [sh_ta, List.length_append]
  rfl
theorem Bz_ta {h : MH} {a : Nat} (b : Bz h) (ha : a < h.1.length) : Bz (taN h a) := by
  unfold taN
  exact Bz_sR (Bz_nC (b)) (by (try simp only [hl_sR, hl_sI, hl_nC]); omega)
theorem ClA_ta {h : MH} {a : Nat} (b : ClA h) (hl : h.1.length + 1 ≤ 66) : ClA (taN h a) := by
  unfold taN
  exact ClA_sR (ClA_nC (b)) (by omega)
theorem Sq9_ta {h h' : MH} {a : Nat} (s : Sq9 h h') : Sq9 (taN h a) (taN h' a) := by
  have e := s.1
  unfold taN
  (try rw [e])
  exact Sq9_sR (Sq9_nC (s))
theorem sh_ly {h : MH} {a : Nat} : (lyN h a).1 = h.1 ++ [(20, 40)] := by
  unfold lyN
  simp only [hl_sR, hl_sI, nC1, List.append_assoc, List.cons_append, List.nil_append]
theorem hl_ly {h : MH} {a : Nat} : (lyN h a).1.length = h.1.length + 1 := by
  rw [sh_ly, List.length_append]
  rfl
theorem Bz_ly {h : MH} {a : Nat} (b : Bz h) (ha : a < h.1.length) : Bz (lyN h a) := by
  unfold lyN
  exact Bz_sR (Bz_nC (b)) (by (try simp only [hl_sR, hl_sI, hl_nC]); omega)
theorem ClA_ly {h : MH} {a : Nat} (b : ClA h) (hl : h.1.length + 1 ≤ 66) : ClA (lyN h a) := by
  unfold lyN
  exact ClA_sR (ClA_nC (b)) (by omega)
theorem Sq9_ly {h h' : MH} {a : Nat} (s : Sq9 h h') : Sq9 (lyN h a) (lyN h' a) := by
  have e := s.1
  unfold lyN
  (try rw [e])
  exact Sq9_sR (Sq9_nC (s))
theorem sh_wi {h : MH} {a : Nat} : (wiN h a).1 = h.1 ++ [(20, 20), (20, 20)] := by
  unfold wiN
  simp only [hl_sR, hl_sI, nC1, List.append_assoc, List.cons_append, List.nil_append]
theorem hl_wi {h : MH} {a : Nat} : (wiN h a).1.length = h.1.length + 2 := by
  rw [sh_wi, List.length_append]
  rfl
theorem Bz_wi {h : MH} {a : Nat} (b : Bz h) (ha : a < h.1.length) : Bz (wiN h a) := by
  unfold wiN
  exact Bz_sR (Bz_nC (Bz_sR (Bz_nC (b)) (by (try simp only [hl_sR, hl_sI, hl_nC]); omega))) (by (try simp only [hl_sR, hl_sI, hl_nC]); omega)
theorem ClA_wi {h : MH} {a : Nat} (b : ClA h) (hl : h.1.length + 2 ≤ 66) : ClA (wiN h a) := by
  unfold wiN
  exact ClA_sR (ClA_nC (ClA_sR (ClA_nC (b)) (by omega))) (by omega)
theorem Sq9_wi {h h' : MH} {a : Nat} (s : Sq9 h h') : Sq9 (wiN h a) (wiN h' a) := by
  have e := s.1
  unfold wiN
  (try rw [e])
  exact Sq9_sR (Sq9_nC (Sq9_sR (Sq9_nC (s))))
theorem sh_ju {h : MH} {a : Nat} : (juN h a).1 = h.1 ++ [(20, 30), (20, 30), (20, 30), (20, 30), (20, 30)] := by
  unfold juN
  simp only [hl_sR, hl_sI, nC1, List.append_assoc, List.cons_append, List.nil_append]
theorem hl_ju {h : MH} {a : Nat} : (juN h a).1.length = h.1.length + 5 := by
  rw [sh_ju, List.length_append]
  rfl
theorem Bz_ju {h : MH} {a : Nat} (b : Bz h) (ha : a < h.1.length) : Bz (juN h a) := by
  unfold juN
  exact Bz_sR (Bz_nC (Bz_sR (Bz_nC (Bz_sR (Bz_nC (Bz_sR (Bz_nC (Bz_sR (Bz_nC (b)) (by (try simp only [hl_sR, hl_sI, hl_nC]); omega))) (by (try simp only [hl_sR, hl_sI, hl_nC]); omega))) (by (try simp only [hl_sR, hl_sI, hl_nC]); omega))) (by (try simp only [hl_sR, hl_sI, hl_nC]); omega))) (by (try simp only [hl_sR, hl_sI, hl_nC]); omega)
theorem ClA_ju {h : MH} {a : Nat} (b : ClA h) (hl : h.1.length + 5 ≤ 66) : ClA (juN h a) := by
  unfold juN
  exact ClA_sR (ClA_nC (ClA_sR (ClA_nC (ClA_sR (ClA_nC (ClA_sR (ClA_nC (ClA_sR (ClA_nC (b)) (by omega))) (by omega))) (by omega))) (by omega))) (by omega)
theorem Sq9_ju {h h' : MH} {a : Nat} (s : Sq9 h h') : Sq9 (juN h a) (juN h' a) := by
  have e := s.1
  unfold juN
  (try rw [e])
  exact Sq9_sR (Sq9_nC (Sq9_sR (Sq9_nC (Sq9_sR (Sq9_nC (Sq9_sR (Sq9_nC (Sq9_sR (Sq9_nC (s))))))))))
theorem sh_re {h : MH} {a x y : Nat} : (reN h a x y).1 = h.1 := by
  unfold reN
  simp only [hl_sR, hl_sI, nC1, List.append_assoc, List.cons_append, List.nil_append]
theorem hl_re {h : MH} {a x y : Nat} : (reN h a x y).1.length = h.1.length + 0 := by
  simp only [sh_re, Nat.add_zero]
theorem Bz_re {h : MH} {a x y : Nat} (b : Bz h) (ha : a < h.1.length) : Bz (reN h a x y) := by
  unfold reN
  exact Bz_sR (Bz_sR (Bz_sI (b) (by (try simp only [hl_sR, hl_sI, hl_nC]); omega)) (by (try simp only [hl_sR, hl_sI, hl_nC]); omega)) (by (try simp only [hl_sR, hl_sI, hl_nC]); omega)
theorem ClA_re {h : MH} {a x y : Nat} (b : ClA h) (hl : h.1.length + 0 ≤ 66) (hx : x < 66) (hy : y < 66) : ClA (reN h a x y) := by
  unfold reN
  exact ClA_sR (ClA_sR (ClA_sI (b)) (by omega)) (by omega)
theorem Sq9_re {h h' : MH} {a x y : Nat} (s : Sq9 h h') : Sq9 (reN h a x y) (reN h' a x y) := by
  have e := s.1
  unfold reN
  (try rw [e])
  exact Sq9_sR (Sq9_sR (Sq9_sI (s)))
theorem sh_sn {h : MH} {a x : Nat} : (snN h a x).1 = h.1 ++ [(20, 1188)] := by
  unfold snN
  simp only [hl_sR, hl_sI, nC1, List.append_assoc, List.cons_append, List.nil_append]
theorem hl_sn {h : MH} {a x : Nat} : (snN h a x).1.length = h.1.length + 1 := by
  rw [sh_sn, List.length_append]
  rfl
theorem Bz_sn {h : MH} {a x : Nat} (b : Bz h) (ha : a < h.1.length) : Bz (snN h a x) := by
  unfold snN
  exact Bz_sR (Bz_sR (Bz_nC (b)) (by (try simp only [hl_sR, hl_sI, hl_nC]); omega)) (by (try simp only [hl_sR, hl_sI, hl_nC]); omega)
theorem ClA_sn {h : MH} {a x : Nat} (b : ClA h) (hl : h.1.length + 1 ≤ 66) (hx : x < 66) : ClA (snN h a x) := by
  unfold snN
  exact ClA_sR (ClA_sR (ClA_nC (b)) (by omega)) (by omega)
theorem Sq9_sn {h h' : MH} {a x : Nat} (s : Sq9 h h') : Sq9 (snN h a x) (snN h' a x) := by
  have e := s.1
  unfold snN
  (try rw [e])
  exact Sq9_sR (Sq9_sR (Sq9_nC (s)))
theorem sh_ca {h : MH} {a x : Nat} : (caN h a x).1 = h.1 ++ [(20, 4), (20, 4), (22, 256), (20, 256), (20, 12), (22, 4096)] := by
  unfold caN
  simp only [hl_sR, hl_sI, nC1, List.append_assoc, List.cons_append, List.nil_append]
theorem hl_ca {h : MH} {a x : Nat} : (caN h a x).1.length = h.1.length + 6 := by
  rw [sh_ca, List.length_append]
  rfl
theorem Bz_ca {h : MH} {a x : Nat} (b : Bz h) (ha : a < h.1.length) : Bz (caN h a x) := by
  unfold caN
  exact Bz_sR (Bz_sR (Bz_nC (Bz_sR (Bz_nC (Bz_sR (Bz_nC (Bz_sR (Bz_nC (Bz_sR (Bz_nC (Bz_sR (Bz_nC (b)) (by (try simp only [hl_sR, hl_sI, hl_nC]); omega))) (by (try simp only [hl_sR, hl_sI, hl_nC]); omega))) (by (try simp only [hl_sR, hl_sI, hl_nC]); omega))) (by (try simp only [hl_sR, hl_sI, hl_nC]); omega))) (by (try simp only [hl_sR, hl_sI, hl_nC]); omega))) (by (try simp only [hl_sR, hl_sI, hl_nC]); omega)) (by (try simp only [hl_sR, hl_sI, hl_nC]); omega)
theorem ClA_ca {h : MH} {a x : Nat} (b : ClA h) (hl : h.1.length + 6 ≤ 66) (hx : x < 66) : ClA (caN h a x) := by
  unfold caN
  exact ClA_sR (ClA_sR (ClA_nC (ClA_sR (ClA_nC (ClA_sR (ClA_nC (ClA_sR (ClA_nC (ClA_sR (ClA_nC (ClA_sR (ClA_nC (b)) (by omega))) (by omega))) (by omega))) (by omega))) (by omega))) (by omega)) (by omega)
theorem Sq9_ca {h h' : MH} {a x : Nat} (s : Sq9 h h') : Sq9 (caN h a x) (caN h' a x) := by
  have e := s.1
  unfold caN
  (try rw [e])
  exact Sq9_sR (Sq9_sR (Sq9_nC (Sq9_sR (Sq9_nC (Sq9_sR (Sq9_nC (Sq9_sR (Sq9_nC (Sq9_sR (Sq9_nC (Sq9_sR (Sq9_nC (s)))))))))))))
def gh0 (L : Nat) (xs : Nat → Int32) : MH := nC (hp0 L xs) 11 10
theorem sg0 (L : Nat) (xs : Nat → Int32) : (gh0 L xs).1 = [(20, L), (21, 20), (11, 10)] := rfl
theorem gl0 (L : Nat) (xs : Nat → Int32) : (gh0 L xs).1.length = 3 := rfl
theorem kz0 (L : Nat) (xs : Nat → Int32) : kd (gh0 L xs) 2 = 11 := rfl
theorem bz0 (L : Nat) (xs : Nat → Int32) : Bz (gh0 L xs) := Bz_nC (fun a j ha => by
  have ha : 2 ≤ a := ha
  show (if a = 0 then xs j else (0 : Int32)) = 0 ∧ (if a = 1 then rsv.getD j 0 else (0 : Int64)) = 0 ∧ Value.null = .null
  rw [if_neg (by omega), if_neg (by omega)]
  exact ⟨rfl, rfl, rfl⟩)
theorem cl0 (L : Nat) (xs : Nat → Int32) : ClA (gh0 L xs) := ClA_nC (fun a j b e => by cases e)
theorem sq0 (L : Nat) (xs : Nat → Int32) : Sq9 (gh0 L xs) (gh0 0 (fun _ => 0)) := Sq9_nC ⟨rfl, fun a j => ⟨rfl, rfl⟩, fun a j ha => by
  show (if a = 0 then xs j else (0 : Int32)) = if a = 0 then 0 else 0
  rw [if_neg ha, if_neg ha]⟩
theorem kd_ltN {h : MH} {t n x : Nat} (hx : x < h.1.length) : kd (nC h t n) x = kd h x := by rw [kdN, if_neg (by omega)]
def gh1 (L : Nat) (xs : Nat → Int32) : MH := sR (orN (nC (gh0 L xs) 5 18) 3) 2 7 (.ref 3)
theorem sg1 (L : Nat) (xs : Nat → Int32) : (gh1 L xs).1 = [(20, L), (21, 20), (11, 10), (5, 18), (4, 2), (21, 4), (20, 4), (4, 2), (21, 3), (20, 3), (20, 3), (4, 2), (21, 12), (20, 12), (20, 12), (20, 12), (20, 12), (20, 12), (1, 6), (22, 640), (20, 13), (20, 13), (20, 32)] := by
  unfold gh1
  rw [hl_sR, sh_or, nC1, sg0]
  rfl
theorem gl1 (L : Nat) (xs : Nat → Int32) : (gh1 L xs).1.length = 23 := by
  unfold gh1
  rw [hl_sR, hl_or, hl_nC, gl0]
theorem bz1 (L : Nat) (xs : Nat → Int32) : Bz (gh1 L xs) := Bz_sR (Bz_or (Bz_nC (bz0 L xs)) (by rw [hl_nC, gl0]; omega)) (by rw [hl_or, hl_nC, gl0]; omega)
theorem cl1 (L : Nat) (xs : Nat → Int32) : ClA (gh1 L xs) := ClA_sR (ClA_or (ClA_nC (cl0 L xs)) (by rw [hl_nC, gl0]; omega)) (by omega)
theorem sq1 (L : Nat) (xs : Nat → Int32) : Sq9 (gh1 L xs) (gh1 0 (fun _ => 0)) := Sq9_sR (Sq9_or (Sq9_nC (sq0 L xs)))
theorem kz1 (L : Nat) (xs : Nat → Int32) : kd (gh1 L xs) 2 = 11 := by
  unfold gh1 orN
  simp only [kd_sR, kd_sI, kdN, hl_sR, hl_sI, hl_nC, gl0, kz0, Nat.reduceAdd, Nat.reduceEqDiff, if_false]
theorem gs1 {L : Nat} {xs : Nat → Int32} {cs : List IR} : rn 1 9 (.aload_n 0 :: .new 5 :: .dup :: .invokeinterface 2 1 :: .putfield 1107 :: cs) [some (.ref 2)] [] (gh0 L xs) = rn 1 9 cs [some (.ref 2)] [] (gh1 L xs) := by
  have ka : Al (nC (gh0 L xs) 5 18) 3 5 := ⟨by rw [kdN, gl0, if_pos rfl], by rw [hl_nC, gl0]; omega⟩
  have kb : kd (nC (gh0 L xs) 5 18) 2 = 11 := by rw [kd_ltN (by rw [gl0]; omega)]; exact kz0 L xs
  have kc : kd (orN (nC (gh0 L xs) 5 18) 3) 2 = 11 := kz1 L xs
  have c : cal 2 [.ref 3] 9 (nC (gh0 L xs) 5 18) = some (none, orN (nC (gh0 L xs) 5 18) 3) := s_Or_init ka (by omega) (by omega)
  rw [e_aload_n_0, e_new_5, gl0, e_dup_a, rn_cal _ _ _ _ _ _ _ _ (by simp) (by simp)]
  show (cal 2 [.ref 3] 9 (nC (gh0 L xs) 5 18)).bind (fun r => rn 1 9 (.putfield 1107 :: cs) [some (.ref 2)] (psh r.1 [.ref 3, .ref 2]) r.2) = _
  rw [c]
  show rn 1 9 (.putfield 1107 :: cs) [some (.ref 2)] [.ref 3, .ref 2] (orN (nC (gh0 L xs) 5 18) 3) = _
  rw [P_1107 _ _ _ _ _ _ 2 3 kc (by omega)]
  rfl
def gh2 (L : Nat) (xs : Nat → Int32) : MH := sR (orN (nC (gh1 L xs) 5 18) 23) 2 8 (.ref 23)
theorem sg2 (L : Nat) (xs : Nat → Int32) : (gh2 L xs).1 = [(20, L), (21, 20), (11, 10), (5, 18), (4, 2), (21, 4), (20, 4), (4, 2), (21, 3), (20, 3), (20, 3), (4, 2), (21, 12), (20, 12), (20, 12), (20, 12), (20, 12), (20, 12), (1, 6), (22, 640), (20, 13), (20, 13), (20, 32), (5, 18), (4, 2), (21, 4), (20, 4), (4, 2), (21, 3), (20, 3), (20, 3), (4, 2), (21, 12), (20, 12), (20, 12), (20, 12), (20, 12), (20, 12), (1, 6), (22, 640), (20, 13), (20, 13), (20, 32)] := by
  unfold gh2
  rw [hl_sR, sh_or, nC1, sg1]
  rfl
theorem gl2 (L : Nat) (xs : Nat → Int32) : (gh2 L xs).1.length = 43 := by
  unfold gh2
  rw [hl_sR, hl_or, hl_nC, gl1]
theorem bz2 (L : Nat) (xs : Nat → Int32) : Bz (gh2 L xs) := Bz_sR (Bz_or (Bz_nC (bz1 L xs)) (by rw [hl_nC, gl1]; omega)) (by rw [hl_or, hl_nC, gl1]; omega)
theorem cl2 (L : Nat) (xs : Nat → Int32) : ClA (gh2 L xs) := ClA_sR (ClA_or (ClA_nC (cl1 L xs)) (by rw [hl_nC, gl1]; omega)) (by omega)
theorem sq2 (L : Nat) (xs : Nat → Int32) : Sq9 (gh2 L xs) (gh2 0 (fun _ => 0)) := Sq9_sR (Sq9_or (Sq9_nC (sq1 L xs)))
theorem kz2 (L : Nat) (xs : Nat → Int32) : kd (gh2 L xs) 2 = 11 := by
  unfold gh2 orN
  simp only [kd_sR, kd_sI, kdN, hl_sR, hl_sI, hl_nC, gl1, kz1, Nat.reduceAdd, Nat.reduceEqDiff, if_false]
theorem gs2 {L : Nat} {xs : Nat → Int32} {cs : List IR} : rn 1 9 (.aload_n 0 :: .new 5 :: .dup :: .invokeinterface 2 1 :: .putfield 1108 :: cs) [some (.ref 2)] [] (gh1 L xs) = rn 1 9 cs [some (.ref 2)] [] (gh2 L xs) := by
  have ka : Al (nC (gh1 L xs) 5 18) 23 5 := ⟨by rw [kdN, gl1, if_pos rfl], by rw [hl_nC, gl1]; omega⟩
  have kb : kd (nC (gh1 L xs) 5 18) 2 = 11 := by rw [kd_ltN (by rw [gl1]; omega)]; exact kz1 L xs
  have kc : kd (orN (nC (gh1 L xs) 5 18) 23) 2 = 11 := kz2 L xs
  have c : cal 2 [.ref 23] 9 (nC (gh1 L xs) 5 18) = some (none, orN (nC (gh1 L xs) 5 18) 23) := s_Or_init ka (by omega) (by omega)
  rw [e_aload_n_0, e_new_5, gl1, e_dup_a, rn_cal _ _ _ _ _ _ _ _ (by simp) (by simp)]
  show (cal 2 [.ref 23] 9 (nC (gh1 L xs) 5 18)).bind (fun r => rn 1 9 (.putfield 1108 :: cs) [some (.ref 2)] (psh r.1 [.ref 23, .ref 2]) r.2) = _
  rw [c]
  show rn 1 9 (.putfield 1108 :: cs) [some (.ref 2)] [.ref 23, .ref 2] (orN (nC (gh1 L xs) 5 18) 23) = _
  rw [P_1108 _ _ _ _ _ _ 2 23 kc (by omega)]
  rfl
def gh3 (L : Nat) (xs : Nat → Int32) : MH := sR (taN (nC (gh2 L xs) 9 7) 43) 2 0 (.ref 43)
theorem sg3 (L : Nat) (xs : Nat → Int32) : (gh3 L xs).1 = [(20, L), (21, 20), (11, 10), (5, 18), (4, 2), (21, 4), (20, 4), (4, 2), (21, 3), (20, 3), (20, 3), (4, 2), (21, 12), (20, 12), (20, 12), (20, 12), (20, 12), (20, 12), (1, 6), (22, 640), (20, 13), (20, 13), (20, 32), (5, 18), (4, 2), (21, 4), (20, 4), (4, 2), (21, 3), (20, 3), (20, 3), (4, 2), (21, 12), (20, 12), (20, 12), (20, 12), (20, 12), (20, 12), (1, 6), (22, 640), (20, 13), (20, 13), (20, 32), (9, 7), (23, 1600)] := by
  unfold gh3
  rw [hl_sR, sh_ta, nC1, sg2]
  rfl
theorem gl3 (L : Nat) (xs : Nat → Int32) : (gh3 L xs).1.length = 45 := by
  unfold gh3
  rw [hl_sR, hl_ta, hl_nC, gl2]
theorem bz3 (L : Nat) (xs : Nat → Int32) : Bz (gh3 L xs) := Bz_sR (Bz_ta (Bz_nC (bz2 L xs)) (by rw [hl_nC, gl2]; omega)) (by rw [hl_ta, hl_nC, gl2]; omega)
theorem cl3 (L : Nat) (xs : Nat → Int32) : ClA (gh3 L xs) := ClA_sR (ClA_ta (ClA_nC (cl2 L xs)) (by rw [hl_nC, gl2]; omega)) (by omega)
theorem sq3 (L : Nat) (xs : Nat → Int32) : Sq9 (gh3 L xs) (gh3 0 (fun _ => 0)) := Sq9_sR (Sq9_ta (Sq9_nC (sq2 L xs)))
theorem kz3 (L : Nat) (xs : Nat → Int32) : kd (gh3 L xs) 2 = 11 := by
  unfold gh3 taN
  simp only [kd_sR, kd_sI, kdN, hl_sR, hl_sI, hl_nC, gl2, kz2, Nat.reduceAdd, Nat.reduceEqDiff, if_false]
theorem gs3 {L : Nat} {xs : Nat → Int32} {cs : List IR} : rn 1 9 (.aload_n 0 :: .new 9 :: .dup :: .invokeinterface 6 1 :: .putfield 1100 :: cs) [some (.ref 2)] [] (gh2 L xs) = rn 1 9 cs [some (.ref 2)] [] (gh3 L xs) := by
  have ka : Al (nC (gh2 L xs) 9 7) 43 9 := ⟨by rw [kdN, gl2, if_pos rfl], by rw [hl_nC, gl2]; omega⟩
  have kb : kd (nC (gh2 L xs) 9 7) 2 = 11 := by rw [kd_ltN (by rw [gl2]; omega)]; exact kz2 L xs
  have kc : kd (taN (nC (gh2 L xs) 9 7) 43) 2 = 11 := kz3 L xs
  have c : cal 6 [.ref 43] 9 (nC (gh2 L xs) 9 7) = some (none, taN (nC (gh2 L xs) 9 7) 43) := s_Ta_init ka (by omega) (by omega)
  rw [e_aload_n_0, e_new_9, gl2, e_dup_a, rn_cal _ _ _ _ _ _ _ _ (by simp) (by simp)]
  show (cal 6 [.ref 43] 9 (nC (gh2 L xs) 9 7)).bind (fun r => rn 1 9 (.putfield 1100 :: cs) [some (.ref 2)] (psh r.1 [.ref 43, .ref 2]) r.2) = _
  rw [c]
  show rn 1 9 (.putfield 1100 :: cs) [some (.ref 2)] [.ref 43, .ref 2] (taN (nC (gh2 L xs) 9 7) 43) = _
  rw [P_1100 _ _ _ _ _ _ 2 43 kc (by omega)]
  rfl
def gh4 (L : Nat) (xs : Nat → Int32) : MH := sR (reN (nC (gh3 L xs) 6 6) 45 43 23) 2 1 (.ref 45)
theorem sg4 (L : Nat) (xs : Nat → Int32) : (gh4 L xs).1 = [(20, L), (21, 20), (11, 10), (5, 18), (4, 2), (21, 4), (20, 4), (4, 2), (21, 3), (20, 3), (20, 3), (4, 2), (21, 12), (20, 12), (20, 12), (20, 12), (20, 12), (20, 12), (1, 6), (22, 640), (20, 13), (20, 13), (20, 32), (5, 18), (4, 2), (21, 4), (20, 4), (4, 2), (21, 3), (20, 3), (20, 3), (4, 2), (21, 12), (20, 12), (20, 12), (20, 12), (20, 12), (20, 12), (1, 6), (22, 640), (20, 13), (20, 13), (20, 32), (9, 7), (23, 1600), (6, 6)] := by
  unfold gh4
  rw [hl_sR, sh_re, nC1, sg3]
  rfl
theorem gl4 (L : Nat) (xs : Nat → Int32) : (gh4 L xs).1.length = 46 := by
  unfold gh4
  rw [hl_sR, hl_re, hl_nC, gl3]
theorem bz4 (L : Nat) (xs : Nat → Int32) : Bz (gh4 L xs) := Bz_sR (Bz_re (Bz_nC (bz3 L xs)) (by rw [hl_nC, gl3]; omega)) (by rw [hl_re, hl_nC, gl3]; omega)
theorem cl4 (L : Nat) (xs : Nat → Int32) : ClA (gh4 L xs) := ClA_sR (ClA_re (ClA_nC (cl3 L xs)) (by rw [hl_nC, gl3]; omega) (by omega) (by omega)) (by omega)
theorem sq4 (L : Nat) (xs : Nat → Int32) : Sq9 (gh4 L xs) (gh4 0 (fun _ => 0)) := Sq9_sR (Sq9_re (Sq9_nC (sq3 L xs)))
theorem kz4 (L : Nat) (xs : Nat → Int32) : kd (gh4 L xs) 2 = 11 := by
  unfold gh4 reN
  simp only [kd_sR, kd_sI, kdN, hl_sR, hl_sI, hl_nC, gl3, kz3, Nat.reduceAdd, Nat.reduceEqDiff, if_false]
theorem gs4 {L : Nat} {xs : Nat → Int32} {cs : List IR} : rn 1 9 (.aload_n 0 :: .new 6 :: .dup :: .aload_n 0 :: .getfield 1100 :: .aload_n 0 :: .getfield 1108 :: .invokeinterface 7 3 :: .putfield 1101 :: cs) [some (.ref 2)] [] (gh3 L xs) = rn 1 9 cs [some (.ref 2)] [] (gh4 L xs) := by
  have ka : Al (nC (gh3 L xs) 6 6) 45 6 := ⟨by rw [kdN, gl3, if_pos rfl], by rw [hl_nC, gl3]; omega⟩
  have kb : kd (nC (gh3 L xs) 6 6) 2 = 11 := by rw [kd_ltN (by rw [gl3]; omega)]; exact kz3 L xs
  have kc : kd (reN (nC (gh3 L xs) 6 6) 45 43 23) 2 = 11 := kz4 L xs
  have g1100 : gR (nC (gh3 L xs) 6 6) 2 0 = .ref 43 := by
    rw [gR_nC, gl3, if_neg (by omega), ((sq3 L xs).2.1 2 0).1]
    exact rfN_e (by decide +kernel)
  have g1108 : gR (nC (gh3 L xs) 6 6) 2 8 = .ref 23 := by
    rw [gR_nC, gl3, if_neg (by omega), ((sq3 L xs).2.1 2 8).1]
    exact rfN_e (by decide +kernel)
  have c : cal 7 [.ref 45, .ref 43, .ref 23] 9 (nC (gh3 L xs) 6 6) = some (none, reN (nC (gh3 L xs) 6 6) 45 43 23) := s_Re_init ka (by omega) (by omega)
  rw [e_aload_n_0, e_new_6, gl3, e_dup_a, e_aload_n_0, G_1100 _ _ _ _ _ _ 2 kb (by omega), g1100, e_aload_n_0, G_1108 _ _ _ _ _ _ 2 kb (by omega), g1108, rn_cal _ _ _ _ _ _ _ _ (by simp) (by simp)]
  show (cal 7 [.ref 45, .ref 43, .ref 23] 9 (nC (gh3 L xs) 6 6)).bind (fun r => rn 1 9 (.putfield 1101 :: cs) [some (.ref 2)] (psh r.1 [.ref 45, .ref 2]) r.2) = _
  rw [c]
  show rn 1 9 (.putfield 1101 :: cs) [some (.ref 2)] [.ref 45, .ref 2] (reN (nC (gh3 L xs) 6 6) 45 43 23) = _
  rw [P_1101 _ _ _ _ _ _ 2 45 kc (by omega)]
  rfl
def gh5 (L : Nat) (xs : Nat → Int32) : MH := sR (caN (nC (gh4 L xs) 0 8) 46 3) 2 2 (.ref 46)
theorem sg5 (L : Nat) (xs : Nat → Int32) : (gh5 L xs).1 = [(20, L), (21, 20), (11, 10), (5, 18), (4, 2), (21, 4), (20, 4), (4, 2), (21, 3), (20, 3), (20, 3), (4, 2), (21, 12), (20, 12), (20, 12), (20, 12), (20, 12), (20, 12), (1, 6), (22, 640), (20, 13), (20, 13), (20, 32), (5, 18), (4, 2), (21, 4), (20, 4), (4, 2), (21, 3), (20, 3), (20, 3), (4, 2), (21, 12), (20, 12), (20, 12), (20, 12), (20, 12), (20, 12), (1, 6), (22, 640), (20, 13), (20, 13), (20, 32), (9, 7), (23, 1600), (6, 6), (0, 8), (20, 4), (20, 4), (22, 256), (20, 256), (20, 12), (22, 4096)] := by
  unfold gh5
  rw [hl_sR, sh_ca, nC1, sg4]
  rfl
theorem gl5 (L : Nat) (xs : Nat → Int32) : (gh5 L xs).1.length = 53 := by
  unfold gh5
  rw [hl_sR, hl_ca, hl_nC, gl4]
theorem bz5 (L : Nat) (xs : Nat → Int32) : Bz (gh5 L xs) := Bz_sR (Bz_ca (Bz_nC (bz4 L xs)) (by rw [hl_nC, gl4]; omega)) (by rw [hl_ca, hl_nC, gl4]; omega)
theorem cl5 (L : Nat) (xs : Nat → Int32) : ClA (gh5 L xs) := ClA_sR (ClA_ca (ClA_nC (cl4 L xs)) (by rw [hl_nC, gl4]; omega) (by omega)) (by omega)
theorem sq5 (L : Nat) (xs : Nat → Int32) : Sq9 (gh5 L xs) (gh5 0 (fun _ => 0)) := Sq9_sR (Sq9_ca (Sq9_nC (sq4 L xs)))
theorem kz5 (L : Nat) (xs : Nat → Int32) : kd (gh5 L xs) 2 = 11 := by
  unfold gh5 caN
  simp only [kd_sR, kd_sI, kdN, hl_sR, hl_sI, hl_nC, gl4, kz4, Nat.reduceAdd, Nat.reduceEqDiff, if_false]
theorem gs5 {L : Nat} {xs : Nat → Int32} {cs : List IR} : rn 1 9 (.aload_n 0 :: .new 0 :: .dup :: .aload_n 0 :: .getfield 1107 :: .invokeinterface 8 2 :: .putfield 1102 :: cs) [some (.ref 2)] [] (gh4 L xs) = rn 1 9 cs [some (.ref 2)] [] (gh5 L xs) := by
  have ka : Al (nC (gh4 L xs) 0 8) 46 0 := ⟨by rw [kdN, gl4, if_pos rfl], by rw [hl_nC, gl4]; omega⟩
  have kb : kd (nC (gh4 L xs) 0 8) 2 = 11 := by rw [kd_ltN (by rw [gl4]; omega)]; exact kz4 L xs
  have kc : kd (caN (nC (gh4 L xs) 0 8) 46 3) 2 = 11 := kz5 L xs
  have g1107 : gR (nC (gh4 L xs) 0 8) 2 7 = .ref 3 := by
    rw [gR_nC, gl4, if_neg (by omega), ((sq4 L xs).2.1 2 7).1]
    exact rfN_e (by decide +kernel)
  have c : cal 8 [.ref 46, .ref 3] 9 (nC (gh4 L xs) 0 8) = some (none, caN (nC (gh4 L xs) 0 8) 46 3) := s_Ca_init ka (by omega) (by omega)
  rw [e_aload_n_0, e_new_0, gl4, e_dup_a, e_aload_n_0, G_1107 _ _ _ _ _ _ 2 kb (by omega), g1107, rn_cal _ _ _ _ _ _ _ _ (by simp) (by simp)]
  show (cal 8 [.ref 46, .ref 3] 9 (nC (gh4 L xs) 0 8)).bind (fun r => rn 1 9 (.putfield 1102 :: cs) [some (.ref 2)] (psh r.1 [.ref 46, .ref 2]) r.2) = _
  rw [c]
  show rn 1 9 (.putfield 1102 :: cs) [some (.ref 2)] [.ref 46, .ref 2] (caN (nC (gh4 L xs) 0 8) 46 3) = _
  rw [P_1102 _ _ _ _ _ _ 2 46 kc (by omega)]
  rfl
def gh6 (L : Nat) (xs : Nat → Int32) : MH := sR (snN (nC (gh5 L xs) 8 6) 53 3) 2 3 (.ref 53)
theorem sg6 (L : Nat) (xs : Nat → Int32) : (gh6 L xs).1 = [(20, L), (21, 20), (11, 10), (5, 18), (4, 2), (21, 4), (20, 4), (4, 2), (21, 3), (20, 3), (20, 3), (4, 2), (21, 12), (20, 12), (20, 12), (20, 12), (20, 12), (20, 12), (1, 6), (22, 640), (20, 13), (20, 13), (20, 32), (5, 18), (4, 2), (21, 4), (20, 4), (4, 2), (21, 3), (20, 3), (20, 3), (4, 2), (21, 12), (20, 12), (20, 12), (20, 12), (20, 12), (20, 12), (1, 6), (22, 640), (20, 13), (20, 13), (20, 32), (9, 7), (23, 1600), (6, 6), (0, 8), (20, 4), (20, 4), (22, 256), (20, 256), (20, 12), (22, 4096), (8, 6), (20, 1188)] := by
  unfold gh6
  rw [hl_sR, sh_sn, nC1, sg5]
  rfl
theorem gl6 (L : Nat) (xs : Nat → Int32) : (gh6 L xs).1.length = 55 := by
  unfold gh6
  rw [hl_sR, hl_sn, hl_nC, gl5]
theorem bz6 (L : Nat) (xs : Nat → Int32) : Bz (gh6 L xs) := Bz_sR (Bz_sn (Bz_nC (bz5 L xs)) (by rw [hl_nC, gl5]; omega)) (by rw [hl_sn, hl_nC, gl5]; omega)
theorem cl6 (L : Nat) (xs : Nat → Int32) : ClA (gh6 L xs) := ClA_sR (ClA_sn (ClA_nC (cl5 L xs)) (by rw [hl_nC, gl5]; omega) (by omega)) (by omega)
theorem sq6 (L : Nat) (xs : Nat → Int32) : Sq9 (gh6 L xs) (gh6 0 (fun _ => 0)) := Sq9_sR (Sq9_sn (Sq9_nC (sq5 L xs)))
theorem kz6 (L : Nat) (xs : Nat → Int32) : kd (gh6 L xs) 2 = 11 := by
  unfold gh6 snN
  simp only [kd_sR, kd_sI, kdN, hl_sR, hl_sI, hl_nC, gl5, kz5, Nat.reduceAdd, Nat.reduceEqDiff, if_false]
theorem gs6 {L : Nat} {xs : Nat → Int32} {cs : List IR} : rn 1 9 (.aload_n 0 :: .new 8 :: .dup :: .aload_n 0 :: .getfield 1107 :: .invokeinterface 9 2 :: .putfield 1103 :: cs) [some (.ref 2)] [] (gh5 L xs) = rn 1 9 cs [some (.ref 2)] [] (gh6 L xs) := by
  have ka : Al (nC (gh5 L xs) 8 6) 53 8 := ⟨by rw [kdN, gl5, if_pos rfl], by rw [hl_nC, gl5]; omega⟩
  have kb : kd (nC (gh5 L xs) 8 6) 2 = 11 := by rw [kd_ltN (by rw [gl5]; omega)]; exact kz5 L xs
  have kc : kd (snN (nC (gh5 L xs) 8 6) 53 3) 2 = 11 := kz6 L xs
  have g1107 : gR (nC (gh5 L xs) 8 6) 2 7 = .ref 3 := by
    rw [gR_nC, gl5, if_neg (by omega), ((sq5 L xs).2.1 2 7).1]
    exact rfN_e (by decide +kernel)
  have c : cal 9 [.ref 53, .ref 3] 9 (nC (gh5 L xs) 8 6) = some (none, snN (nC (gh5 L xs) 8 6) 53 3) := s_Sn_init ka (by omega) (by omega)
  rw [e_aload_n_0, e_new_8, gl5, e_dup_a, e_aload_n_0, G_1107 _ _ _ _ _ _ 2 kb (by omega), g1107, rn_cal _ _ _ _ _ _ _ _ (by simp) (by simp)]
  show (cal 9 [.ref 53, .ref 3] 9 (nC (gh5 L xs) 8 6)).bind (fun r => rn 1 9 (.putfield 1103 :: cs) [some (.ref 2)] (psh r.1 [.ref 53, .ref 2]) r.2) = _
  rw [c]
  show rn 1 9 (.putfield 1103 :: cs) [some (.ref 2)] [.ref 53, .ref 2] (snN (nC (gh5 L xs) 8 6) 53 3) = _
  rw [P_1103 _ _ _ _ _ _ 2 53 kc (by omega)]
  rfl
def gh7 (L : Nat) (xs : Nat → Int32) : MH := sR (wiN (nC (gh6 L xs) 10 3) 55) 2 4 (.ref 55)
theorem sg7 (L : Nat) (xs : Nat → Int32) : (gh7 L xs).1 = [(20, L), (21, 20), (11, 10), (5, 18), (4, 2), (21, 4), (20, 4), (4, 2), (21, 3), (20, 3), (20, 3), (4, 2), (21, 12), (20, 12), (20, 12), (20, 12), (20, 12), (20, 12), (1, 6), (22, 640), (20, 13), (20, 13), (20, 32), (5, 18), (4, 2), (21, 4), (20, 4), (4, 2), (21, 3), (20, 3), (20, 3), (4, 2), (21, 12), (20, 12), (20, 12), (20, 12), (20, 12), (20, 12), (1, 6), (22, 640), (20, 13), (20, 13), (20, 32), (9, 7), (23, 1600), (6, 6), (0, 8), (20, 4), (20, 4), (22, 256), (20, 256), (20, 12), (22, 4096), (8, 6), (20, 1188), (10, 3), (20, 20), (20, 20)] := by
  unfold gh7
  rw [hl_sR, sh_wi, nC1, sg6]
  rfl
theorem gl7 (L : Nat) (xs : Nat → Int32) : (gh7 L xs).1.length = 58 := by
  unfold gh7
  rw [hl_sR, hl_wi, hl_nC, gl6]
theorem bz7 (L : Nat) (xs : Nat → Int32) : Bz (gh7 L xs) := Bz_sR (Bz_wi (Bz_nC (bz6 L xs)) (by rw [hl_nC, gl6]; omega)) (by rw [hl_wi, hl_nC, gl6]; omega)
theorem cl7 (L : Nat) (xs : Nat → Int32) : ClA (gh7 L xs) := ClA_sR (ClA_wi (ClA_nC (cl6 L xs)) (by rw [hl_nC, gl6]; omega)) (by omega)
theorem sq7 (L : Nat) (xs : Nat → Int32) : Sq9 (gh7 L xs) (gh7 0 (fun _ => 0)) := Sq9_sR (Sq9_wi (Sq9_nC (sq6 L xs)))
theorem kz7 (L : Nat) (xs : Nat → Int32) : kd (gh7 L xs) 2 = 11 := by
  unfold gh7 wiN
  simp only [kd_sR, kd_sI, kdN, hl_sR, hl_sI, hl_nC, gl6, kz6, Nat.reduceAdd, Nat.reduceEqDiff, if_false]
theorem gs7 {L : Nat} {xs : Nat → Int32} {cs : List IR} : rn 1 9 (.aload_n 0 :: .new 10 :: .dup :: .invokeinterface 10 1 :: .putfield 1104 :: cs) [some (.ref 2)] [] (gh6 L xs) = rn 1 9 cs [some (.ref 2)] [] (gh7 L xs) := by
  have ka : Al (nC (gh6 L xs) 10 3) 55 10 := ⟨by rw [kdN, gl6, if_pos rfl], by rw [hl_nC, gl6]; omega⟩
  have kb : kd (nC (gh6 L xs) 10 3) 2 = 11 := by rw [kd_ltN (by rw [gl6]; omega)]; exact kz6 L xs
  have kc : kd (wiN (nC (gh6 L xs) 10 3) 55) 2 = 11 := kz7 L xs
  have c : cal 10 [.ref 55] 9 (nC (gh6 L xs) 10 3) = some (none, wiN (nC (gh6 L xs) 10 3) 55) := s_Wi_init ka (by omega) (by omega)
  rw [e_aload_n_0, e_new_10, gl6, e_dup_a, rn_cal _ _ _ _ _ _ _ _ (by simp) (by simp)]
  show (cal 10 [.ref 55] 9 (nC (gh6 L xs) 10 3)).bind (fun r => rn 1 9 (.putfield 1104 :: cs) [some (.ref 2)] (psh r.1 [.ref 55, .ref 2]) r.2) = _
  rw [c]
  show rn 1 9 (.putfield 1104 :: cs) [some (.ref 2)] [.ref 55, .ref 2] (wiN (nC (gh6 L xs) 10 3) 55) = _
  rw [P_1104 _ _ _ _ _ _ 2 55 kc (by omega)]
  rfl
def gh8 (L : Nat) (xs : Nat → Int32) : MH := sR (juN (nC (gh7 L xs) 2 7) 58) 2 5 (.ref 58)
theorem sg8 (L : Nat) (xs : Nat → Int32) : (gh8 L xs).1 = [(20, L), (21, 20), (11, 10), (5, 18), (4, 2), (21, 4), (20, 4), (4, 2), (21, 3), (20, 3), (20, 3), (4, 2), (21, 12), (20, 12), (20, 12), (20, 12), (20, 12), (20, 12), (1, 6), (22, 640), (20, 13), (20, 13), (20, 32), (5, 18), (4, 2), (21, 4), (20, 4), (4, 2), (21, 3), (20, 3), (20, 3), (4, 2), (21, 12), (20, 12), (20, 12), (20, 12), (20, 12), (20, 12), (1, 6), (22, 640), (20, 13), (20, 13), (20, 32), (9, 7), (23, 1600), (6, 6), (0, 8), (20, 4), (20, 4), (22, 256), (20, 256), (20, 12), (22, 4096), (8, 6), (20, 1188), (10, 3), (20, 20), (20, 20), (2, 7), (20, 30), (20, 30), (20, 30), (20, 30), (20, 30)] := by
  unfold gh8
  rw [hl_sR, sh_ju, nC1, sg7]
  rfl
theorem gl8 (L : Nat) (xs : Nat → Int32) : (gh8 L xs).1.length = 64 := by
  unfold gh8
  rw [hl_sR, hl_ju, hl_nC, gl7]
theorem bz8 (L : Nat) (xs : Nat → Int32) : Bz (gh8 L xs) := Bz_sR (Bz_ju (Bz_nC (bz7 L xs)) (by rw [hl_nC, gl7]; omega)) (by rw [hl_ju, hl_nC, gl7]; omega)
theorem cl8 (L : Nat) (xs : Nat → Int32) : ClA (gh8 L xs) := ClA_sR (ClA_ju (ClA_nC (cl7 L xs)) (by rw [hl_nC, gl7]; omega)) (by omega)
theorem sq8 (L : Nat) (xs : Nat → Int32) : Sq9 (gh8 L xs) (gh8 0 (fun _ => 0)) := Sq9_sR (Sq9_ju (Sq9_nC (sq7 L xs)))
theorem kz8 (L : Nat) (xs : Nat → Int32) : kd (gh8 L xs) 2 = 11 := by
  unfold gh8 juN
  simp only [kd_sR, kd_sI, kdN, hl_sR, hl_sI, hl_nC, gl7, kz7, Nat.reduceAdd, Nat.reduceEqDiff, if_false]
theorem gs8 {L : Nat} {xs : Nat → Int32} {cs : List IR} : rn 1 9 (.aload_n 0 :: .new 2 :: .dup :: .invokeinterface 11 1 :: .putfield 1105 :: cs) [some (.ref 2)] [] (gh7 L xs) = rn 1 9 cs [some (.ref 2)] [] (gh8 L xs) := by
  have ka : Al (nC (gh7 L xs) 2 7) 58 2 := ⟨by rw [kdN, gl7, if_pos rfl], by rw [hl_nC, gl7]; omega⟩
  have kb : kd (nC (gh7 L xs) 2 7) 2 = 11 := by rw [kd_ltN (by rw [gl7]; omega)]; exact kz7 L xs
  have kc : kd (juN (nC (gh7 L xs) 2 7) 58) 2 = 11 := kz8 L xs
  have c : cal 11 [.ref 58] 9 (nC (gh7 L xs) 2 7) = some (none, juN (nC (gh7 L xs) 2 7) 58) := s_Ju_init ka (by omega) (by omega)
  rw [e_aload_n_0, e_new_2, gl7, e_dup_a, rn_cal _ _ _ _ _ _ _ _ (by simp) (by simp)]
  show (cal 11 [.ref 58] 9 (nC (gh7 L xs) 2 7)).bind (fun r => rn 1 9 (.putfield 1105 :: cs) [some (.ref 2)] (psh r.1 [.ref 58, .ref 2]) r.2) = _
  rw [c]
  show rn 1 9 (.putfield 1105 :: cs) [some (.ref 2)] [.ref 58, .ref 2] (juN (nC (gh7 L xs) 2 7) 58) = _
  rw [P_1105 _ _ _ _ _ _ 2 58 kc (by omega)]
  rfl
def gh9 (L : Nat) (xs : Nat → Int32) : MH := sR (lyN (nC (gh8 L xs) 3 2) 64) 2 6 (.ref 64)
theorem sg9 (L : Nat) (xs : Nat → Int32) : (gh9 L xs).1 = [(20, L), (21, 20), (11, 10), (5, 18), (4, 2), (21, 4), (20, 4), (4, 2), (21, 3), (20, 3), (20, 3), (4, 2), (21, 12), (20, 12), (20, 12), (20, 12), (20, 12), (20, 12), (1, 6), (22, 640), (20, 13), (20, 13), (20, 32), (5, 18), (4, 2), (21, 4), (20, 4), (4, 2), (21, 3), (20, 3), (20, 3), (4, 2), (21, 12), (20, 12), (20, 12), (20, 12), (20, 12), (20, 12), (1, 6), (22, 640), (20, 13), (20, 13), (20, 32), (9, 7), (23, 1600), (6, 6), (0, 8), (20, 4), (20, 4), (22, 256), (20, 256), (20, 12), (22, 4096), (8, 6), (20, 1188), (10, 3), (20, 20), (20, 20), (2, 7), (20, 30), (20, 30), (20, 30), (20, 30), (20, 30), (3, 2), (20, 40)] := by
  unfold gh9
  rw [hl_sR, sh_ly, nC1, sg8]
  rfl
theorem gl9 (L : Nat) (xs : Nat → Int32) : (gh9 L xs).1.length = 66 := by
  unfold gh9
  rw [hl_sR, hl_ly, hl_nC, gl8]
theorem bz9 (L : Nat) (xs : Nat → Int32) : Bz (gh9 L xs) := Bz_sR (Bz_ly (Bz_nC (bz8 L xs)) (by rw [hl_nC, gl8]; omega)) (by rw [hl_ly, hl_nC, gl8]; omega)
theorem cl9 (L : Nat) (xs : Nat → Int32) : ClA (gh9 L xs) := ClA_sR (ClA_ly (ClA_nC (cl8 L xs)) (by rw [hl_nC, gl8]; omega)) (by omega)
theorem sq9 (L : Nat) (xs : Nat → Int32) : Sq9 (gh9 L xs) (gh9 0 (fun _ => 0)) := Sq9_sR (Sq9_ly (Sq9_nC (sq8 L xs)))
theorem kz9 (L : Nat) (xs : Nat → Int32) : kd (gh9 L xs) 2 = 11 := by
  unfold gh9 lyN
  simp only [kd_sR, kd_sI, kdN, hl_sR, hl_sI, hl_nC, gl8, kz8, Nat.reduceAdd, Nat.reduceEqDiff, if_false]
theorem gs9 {L : Nat} {xs : Nat → Int32} {cs : List IR} : rn 1 9 (.aload_n 0 :: .new 3 :: .dup :: .invokeinterface 12 1 :: .putfield 1106 :: cs) [some (.ref 2)] [] (gh8 L xs) = rn 1 9 cs [some (.ref 2)] [] (gh9 L xs) := by
  have ka : Al (nC (gh8 L xs) 3 2) 64 3 := ⟨by rw [kdN, gl8, if_pos rfl], by rw [hl_nC, gl8]; omega⟩
  have kb : kd (nC (gh8 L xs) 3 2) 2 = 11 := by rw [kd_ltN (by rw [gl8]; omega)]; exact kz8 L xs
  have kc : kd (lyN (nC (gh8 L xs) 3 2) 64) 2 = 11 := kz9 L xs
  have c : cal 12 [.ref 64] 9 (nC (gh8 L xs) 3 2) = some (none, lyN (nC (gh8 L xs) 3 2) 64) := s_Ly_init ka (by omega) (by omega)
  rw [e_aload_n_0, e_new_3, gl8, e_dup_a, rn_cal _ _ _ _ _ _ _ _ (by simp) (by simp)]
  show (cal 12 [.ref 64] 9 (nC (gh8 L xs) 3 2)).bind (fun r => rn 1 9 (.putfield 1106 :: cs) [some (.ref 2)] (psh r.1 [.ref 64, .ref 2]) r.2) = _
  rw [c]
  show rn 1 9 (.putfield 1106 :: cs) [some (.ref 2)] [.ref 64, .ref 2] (lyN (nC (gh8 L xs) 3 2) 64) = _
  rw [P_1106 _ _ _ _ _ _ 2 64 kc (by omega)]
  rfl
def gz : MH := gh9 0 (fun _ => 0)
theorem gz_R {L : Nat} {xs : Nat → Int32} (a j : Nat) : gR (gh9 L xs) a j = gR gz a j := ((sq9 L xs).2.1 a j).1
theorem gz_L {L : Nat} {xs : Nat → Int32} (a j : Nat) : gL (gh9 L xs) a j = gL gz a j := ((sq9 L xs).2.1 a j).2
theorem gz_I {L : Nat} {xs : Nat → Int32} (a j : Nat) (ha : ¬ a = 0) : gI (gh9 L xs) a j = gI gz a j := (sq9 L xs).2.2 a j ha
def SHA (L : Nat) : List (Nat × Nat) := [(20, L), (21, 20), (11, 10), (5, 18), (4, 2), (21, 4), (20, 4), (4, 2), (21, 3), (20, 3), (20, 3), (4, 2), (21, 12), (20, 12), (20, 12), (20, 12), (20, 12), (20, 12), (1, 6), (22, 640), (20, 13), (20, 13), (20, 32), (5, 18), (4, 2), (21, 4), (20, 4), (4, 2), (21, 3), (20, 3), (20, 3), (4, 2), (21, 12), (20, 12), (20, 12), (20, 12), (20, 12), (20, 12), (1, 6), (22, 640), (20, 13), (20, 13), (20, 32), (9, 7), (23, 1600), (6, 6), (0, 8), (20, 4), (20, 4), (22, 256), (20, 256), (20, 12), (22, 4096), (8, 6), (20, 1188), (10, 3), (20, 20), (20, 20), (2, 7), (20, 30), (20, 30), (20, 30), (20, 30), (20, 30), (3, 2), (20, 40)]
def SHB : List (Nat × Nat) := [(12, 88), (20, 1600), (21, 20), (20, 4160), (20, 4160), (20, 13), (20, 4160), (20, 4160), (20, 13), (20, 160), (20, 64), (20, 4), (20, 3), (20, 12), (20, 12), (20, 12), (20, 12), (20, 12), (20, 4), (20, 3), (20, 12), (20, 12), (20, 12), (20, 12), (20, 12), (20, 3), (20, 256), (20, 12), (20, 32), (20, 1280), (20, 4096), (20, 20), (20, 20), (20, 4096), (20, 4096), (20, 4096), (24, 4096), (20, 30), (20, 30), (20, 30), (20, 30), (20, 30), (20, 4096), (20, 102), (24, 3), (20, 96)]
theorem SH_ab (L : Nat) : SH L = SHA L ++ SHB := rfl
theorem lA (L : Nat) : (SHA L).length = 66 := rfl
theorem gh_sh (L : Nat) (xs : Nat → Int32) : (gh9 L xs).1 = SHA L := sg9 L xs
theorem gs_all {L : Nat} {xs : Nat → Int32} {g : MH} (s : cal 13 [.ref 2] 9 (gh9 L xs) = some (none, g)) : cal 1 [.ref 2] 90 (gh0 L xs) = some (none, g) := by
  rw [C_1 2 90 (gh0 L xs) (kz0 L xs) (by omega) (by omega), B_1_0, e_aload_n_0, e_objinit _ _ _ _ _ _ _ _ (by simp), gs1, gs2, gs3, gs4, gs5, gs6, gs7, gs8, gs9, e_aload_n_0, rn_cal _ _ _ _ _ _ _ _ (by simp) (by simp)]
  show (cal 13 [.ref 2] 9 (gh9 L xs)).bind (fun r => rn 1 9 [.return_] [some (.ref 2)] (psh r.1 []) r.2) = _
  rw [s]
  show rn 1 9 [.return_] [some (.ref 2)] [] g = _
  rw [R_1]
/-- with the reference's cells, as they will lie -/
def moR (j : Nat) : Value := match RTB.find? (fun q => q.1 == 66 && q.2.1 == j) with
  | some q => .ref q.2.2
  | none => .null
def bB (h : MH) : MH := (h.1 ++ SHB, h.2.1, h.2.2.1, fun a j => if a = 66 then moR j else h.2.2.2 a j)
theorem bB_1 (h : MH) : (bB h).1 = h.1 ++ SHB := rfl
theorem bB_I (h : MH) (a j : Nat) : gI (bB h) a j = gI h a j := rfl
theorem bB_L (h : MH) (a j : Nat) : gL (bB h) a j = gL h a j := rfl
theorem bB_R (h : MH) (a j : Nat) : gR (bB h) a j = if a = 66 then moR j else gR h a j := rfl
theorem cut_bB {h : MH} (b : Bz h) (l66 : h.1.length = 66) : cutH (bB h) = h := by
  obtain ⟨h1, I, G, R⟩ := h
  have l66 : h1.length = 66 := l66
  refine Prod.ext ?_ (Prod.ext ?_ (Prod.ext ?_ ?_))
  · show (h1 ++ SHB).take 66 = h1
    rw [List.take_append_of_le_length (by omega), List.take_of_length_le (by omega)]
  all_goals funext a j
  · show (if a < 66 then I a j else 0) = I a j
    by_cases c : a < 66
    · rw [if_pos c]
    · rw [if_neg c]; exact ((b a j (show h1.length ≤ a by omega)).1).symm
  · show (if a < 66 then G a j else 0) = G a j
    by_cases c : a < 66
    · rw [if_pos c]
    · rw [if_neg c]; exact ((b a j (show h1.length ≤ a by omega)).2.1).symm
  · show (if a < 66 then (if a = 66 then moR j else R a j) else .null) = R a j
    by_cases c : a < 66
    · rw [if_pos c, if_neg (by omega)]
    · rw [if_neg c]; exact ((b a j (show h1.length ≤ a by omega)).2.2).symm
def gB (L : Nat) (xs : Nat → Int32) : MH := bB (gh9 L xs)
theorem gB_R {L : Nat} {xs : Nat → Int32} {a j : Nat} (ha : ¬ a = 66) : gR (gB L xs) a j = gR gz a j := by
  unfold gB
  rw [bB_R, if_neg ha]
  exact gz_R a j
theorem gB_6 {L : Nat} {xs : Nat → Int32} {j : Nat} : gR (gB L xs) 66 j = moR j := by
  unfold gB
  rw [bB_R, if_pos rfl]
theorem gB_I {L : Nat} {xs : Nat → Int32} {a j : Nat} (ha : ¬ a = 0) : gI (gB L xs) a j = gI gz a j := by
  unfold gB
  rw [bB_I]
  exact gz_I a j ha
theorem gB_L {L : Nat} {xs : Nat → Int32} {a j : Nat} : gL (gB L xs) a j = gL gz a j := by
  unfold gB
  rw [bB_L]
  exact gz_L a j
theorem gB_sh {L : Nat} {xs : Nat → Int32} : (gB L xs).1 = SH L := by
  unfold gB
  rw [bB_1, gh_sh, SH_ab]
theorem gB_St {L : Nat} {xs : Nat → Int32} : St (gB L xs) := by
  refine ⟨⟨L, [], by rw [gB_sh, List.append_nil]⟩, fun q hq => ?_⟩
  have d : RTB.all (fun q => if q.1 = 66 then rfN (moR q.2.1) == q.2.2 + 1 else rfN (gR gz q.1 q.2.1) == q.2.2 + 1) = true := by decide +kernel
  have e := List.all_eq_true.mp d q hq
  by_cases c : q.1 = 66
  · rw [if_pos c] at e
    rw [c, gB_6]
    exact rfN_e (beq_iff_eq.mp e)
  · rw [if_neg c] at e
    rw [gB_R c]
    exact rfN_e (beq_iff_eq.mp e)
theorem gB_cut {L : Nat} {xs : Nat → Int32} : cutH (gB L xs) = gh9 L xs := cut_bB (bz9 L xs) (gl9 L xs)
theorem gB_Cl {L : Nat} {xs : Nat → Int32} : Cl6 (gB L xs) := fun a j ha => by
  unfold gB
  rw [bB_R, if_neg (by omega)]
  exact cl9 L xs a j
def isNl (v : Value) : Bool := match v with
  | .null => true
  | _ => false
theorem isNl_e {v : Value} (h : isNl v = true) : v = .null := by
  unfold isNl at h
  split at h
  · rfl
  · cases h
theorem gz_f : (gI gz 4 1 = 0 ∧ gI gz 7 1 = 0 ∧ gI gz 11 1 = 0) ∧ (∀ t, t < 3 → gI gz 10 t = 0) ∧ (gI gz 3 13 = 0 ∧ gI gz 3 14 = 0 ∧ gI gz 3 15 = 1 ∧ gI gz 3 16 = 0 ∧ gI gz 18 5 = 0) ∧ (gI gz 3 12 = 0 ∧ gI gz 3 17 = 0) ∧ (gI gz 21 12 = 0 ∧ gI gz 53 2 = 0 ∧ gI gz 58 6 = 0 ∧ gI gz 43 1 = 0 ∧ gI gz 45 4 = 0 ∧ gI gz 45 5 = -1) ∧ ∀ j, j < 20 → gL gz 1 j = rsv.getD j 0 := by decide +kernel
theorem gz_r : gR gz 2 7 = .ref 3 ∧ gR gz 2 8 = .ref 23 ∧ gR gz 64 0 = .ref 65 ∧ gR gz 2 9 = .null := ⟨rfN_e (by decide +kernel), rfN_e (by decide +kernel), rfN_e (by decide +kernel), isNl_e (by decide +kernel)⟩
