/-! the class's constructor, up to its last call -/
def Bz (h : MH) : Prop := ∀ a j, h.1.length ≤ a → gI h a j = 0 ∧ gL h a j = 0 ∧ gR h a j = .null
theorem Bz_nC {h : MH} {t n : Nat} (b : Bz h) : Bz (nC h t n) := fun a j ha => by
  rw [hl_nC] at ha
  show (if a = h.1.length then (0 : Int32) else gI h a j) = 0 ∧ (if a = h.1.length then (0 : Int64) else gL h a j) = 0 ∧ (if a = h.1.length then Value.null else gR h a j) = .null
  rw [if_neg (by omega), if_neg (by omega), if_neg (by omega)]
  exact b a j (by omega)
theorem Bz_sR {h : MH} {x y : Nat} {v : Value} (b : Bz h) (hx : x < h.1.length) : Bz (sR h x y v) := fun a j ha => by
  rw [hl_sR] at ha
  rw [gI_sR, gL_sR, gR_sR, if_neg (by omega)]
  exact b a j ha
theorem Bz_sI {h : MH} {x y : Nat} {v : Int32} (b : Bz h) (hx : x < h.1.length) : Bz (sI h x y v) := fun a j ha => by
  rw [hl_sI] at ha
  rw [gL_sI, gR_sI, gI_sI, if_neg (by omega)]
  exact b a j ha
def ClA (h : MH) : Prop := ∀ a j, cuV (gR h a j)
theorem ClA_nC {h : MH} {t n : Nat} (b : ClA h) : ClA (nC h t n) := fun a j => by
  rw [gR_nC]
  split
  · exact fun z e => by cases e
  · exact b a j
theorem ClA_sR {h : MH} {x y z : Nat} (b : ClA h) (hz : z < 66) : ClA (sR h x y (.ref z)) := fun a j => by
  rw [gR_sR]
  split
  · exact cuV_r hz
  · exact b a j
theorem ClA_sI {h : MH} {x y : Nat} {v : Int32} (b : ClA h) : ClA (sI h x y v) := b
def taN (h : MH) (a : Nat) : MH := (sR (nC h 23 1600) a 0 (.ref (h.1.length)))
def lyN (h : MH) (a : Nat) : MH := (sR (nC h 20 40) a 0 (.ref (h.1.length)))
def wiN (h : MH) (a : Nat) : MH := (sR (nC (sR (nC h 20 20) a 0 (.ref (h.1.length))) 20 20) a 1 (.ref (h.1.length + 1)))
def juN (h : MH) (a : Nat) : MH := (sR (nC (sR (nC (sR (nC (sR (nC (sR (nC h 20 30) a 0 (.ref (h.1.length))) 20 30) a 1 (.ref (h.1.length + 1))) 20 30) a 2 (.ref (h.1.length + 2))) 20 30) a 3 (.ref (h.1.length + 3))) 20 30) a 4 (.ref (h.1.length + 4)))
def reN (h : MH) (a x y : Nat) : MH := (sR (sR (sI h a 5 (-1)) a 0 (.ref (x))) a 1 (.ref (y)))
def snN (h : MH) (a x : Nat) : MH := (sR (sR (nC h 20 1188) a 1 (.ref (h.1.length))) a 0 (.ref (x)))
def caN (h : MH) (a x : Nat) : MH := (sR (sR (nC (sR (nC (sR (nC (sR (nC (sR (nC (sR (nC h 20 4) a 2 (.ref (h.1.length))) 20 4) a 3 (.ref (h.1.length + 1))) 22 256) a 4 (.ref (h.1.length + 2))) 20 256) a 5 (.ref (h.1.length + 3))) 20 12) a 6 (.ref (h.1.length + 4))) 22 4096) a 7 (.ref (h.1.length + 5))) a 0 (.ref (x)))
def gh0 (L : Nat) (xs : Nat → Int32) : MH := nC (hp0 L xs) 11 10
def gh1 (L : Nat) (xs : Nat → Int32) : MH := sR (orN (nC (gh0 L xs) 5 18) 3) 2 7 (.ref 3)
theorem gs1 {L : Nat} {xs : Nat → Int32} {cs : List IR} : rn 1 9 (.aload_n 0 :: .new 5 :: .dup :: .invokeinterface 2 1 :: .putfield 1107 :: cs) [some (.ref 2)] [] (gh0 L xs) = rn 1 9 cs [some (.ref 2)] [] (gh1 L xs) := by
  have c : cal 2 [.ref 3] 9 (nC (gh0 L xs) 5 18) = some (none, orN (nC (gh0 L xs) 5 18) 3) := s_Or_init ⟨rfl, Nat.le_of_ble_eq_true rfl⟩ (by omega) (by omega)
  rw [e_aload_n_0, e_new_5, e_dup_a, rn_cal _ _ _ _ _ _ _ _ (by simp) (by simp)]
  show (cal 2 [.ref 3] 9 (nC (gh0 L xs) 5 18)).bind (fun r => rn 1 9 (.putfield 1107 :: cs) [some (.ref 2)] (psh r.1 [.ref 3, .ref 2]) r.2) = _
  rw [c]
  show rn 1 9 (.putfield 1107 :: cs) [some (.ref 2)] [.ref 3, .ref 2] (orN (nC (gh0 L xs) 5 18) 3) = _
  rw [P_1107 2 3 (show kd (orN (nC (gh0 L xs) 5 18) 3) 2 = 11 from rfl) (by omega)]
  rfl
def gh2 (L : Nat) (xs : Nat → Int32) : MH := sR (orN (nC (gh1 L xs) 5 18) 23) 2 8 (.ref 23)
theorem gs2 {L : Nat} {xs : Nat → Int32} {cs : List IR} : rn 1 9 (.aload_n 0 :: .new 5 :: .dup :: .invokeinterface 2 1 :: .putfield 1108 :: cs) [some (.ref 2)] [] (gh1 L xs) = rn 1 9 cs [some (.ref 2)] [] (gh2 L xs) := by
  have c : cal 2 [.ref 23] 9 (nC (gh1 L xs) 5 18) = some (none, orN (nC (gh1 L xs) 5 18) 23) := s_Or_init ⟨rfl, Nat.le_of_ble_eq_true rfl⟩ (by omega) (by omega)
  rw [e_aload_n_0, e_new_5, e_dup_a, rn_cal _ _ _ _ _ _ _ _ (by simp) (by simp)]
  show (cal 2 [.ref 23] 9 (nC (gh1 L xs) 5 18)).bind (fun r => rn 1 9 (.putfield 1108 :: cs) [some (.ref 2)] (psh r.1 [.ref 23, .ref 2]) r.2) = _
  rw [c]
  show rn 1 9 (.putfield 1108 :: cs) [some (.ref 2)] [.ref 23, .ref 2] (orN (nC (gh1 L xs) 5 18) 23) = _
  rw [P_1108 2 23 (show kd (orN (nC (gh1 L xs) 5 18) 23) 2 = 11 from rfl) (by omega)]
  rfl
def gh3 (L : Nat) (xs : Nat → Int32) : MH := sR (taN (nC (gh2 L xs) 9 7) 43) 2 0 (.ref 43)
theorem gs3 {L : Nat} {xs : Nat → Int32} {cs : List IR} : rn 1 9 (.aload_n 0 :: .new 9 :: .dup :: .invokeinterface 6 1 :: .putfield 1100 :: cs) [some (.ref 2)] [] (gh2 L xs) = rn 1 9 cs [some (.ref 2)] [] (gh3 L xs) := by
  have c : cal 6 [.ref 43] 9 (nC (gh2 L xs) 9 7) = some (none, taN (nC (gh2 L xs) 9 7) 43) := s_Ta_init ⟨rfl, Nat.le_of_ble_eq_true rfl⟩ (by omega) (by omega)
  rw [e_aload_n_0, e_new_9, e_dup_a, rn_cal _ _ _ _ _ _ _ _ (by simp) (by simp)]
  show (cal 6 [.ref 43] 9 (nC (gh2 L xs) 9 7)).bind (fun r => rn 1 9 (.putfield 1100 :: cs) [some (.ref 2)] (psh r.1 [.ref 43, .ref 2]) r.2) = _
  rw [c]
  show rn 1 9 (.putfield 1100 :: cs) [some (.ref 2)] [.ref 43, .ref 2] (taN (nC (gh2 L xs) 9 7) 43) = _
  rw [P_1100 2 43 (show kd (taN (nC (gh2 L xs) 9 7) 43) 2 = 11 from rfl) (by omega)]
  rfl
def gh4 (L : Nat) (xs : Nat → Int32) : MH := sR (reN (nC (gh3 L xs) 6 6) 45 43 23) 2 1 (.ref 45)
theorem gs4 {L : Nat} {xs : Nat → Int32} {cs : List IR} : rn 1 9 (.aload_n 0 :: .new 6 :: .dup :: .aload_n 0 :: .getfield 1100 :: .aload_n 0 :: .getfield 1108 :: .invokeinterface 7 3 :: .putfield 1101 :: cs) [some (.ref 2)] [] (gh3 L xs) = rn 1 9 cs [some (.ref 2)] [] (gh4 L xs) := by
  have c : cal 7 [.ref 45, .ref 43, .ref 23] 9 (nC (gh3 L xs) 6 6) = some (none, reN (nC (gh3 L xs) 6 6) 45 43 23) := s_Re_init ⟨rfl, Nat.le_of_ble_eq_true rfl⟩ (by omega) (by omega)
  rw [e_aload_n_0, e_new_6, e_dup_a, e_aload_n_0, G_1100 2 (show kd (nC (gh3 L xs) 6 6) 2 = 11 from rfl) (by omega), e_aload_n_0, G_1108 2 (show kd (nC (gh3 L xs) 6 6) 2 = 11 from rfl) (by omega), rn_cal _ _ _ _ _ _ _ _ (by simp) (by simp)]
  show (cal 7 [.ref 45, .ref 43, .ref 23] 9 (nC (gh3 L xs) 6 6)).bind (fun r => rn 1 9 (.putfield 1101 :: cs) [some (.ref 2)] (psh r.1 [.ref 45, .ref 2]) r.2) = _
  rw [c]
  show rn 1 9 (.putfield 1101 :: cs) [some (.ref 2)] [.ref 45, .ref 2] (reN (nC (gh3 L xs) 6 6) 45 43 23) = _
  rw [P_1101 2 45 (show kd (reN (nC (gh3 L xs) 6 6) 45 43 23) 2 = 11 from rfl) (by omega)]
  rfl
def gh5 (L : Nat) (xs : Nat → Int32) : MH := sR (caN (nC (gh4 L xs) 0 8) 46 3) 2 2 (.ref 46)
theorem gs5 {L : Nat} {xs : Nat → Int32} {cs : List IR} : rn 1 9 (.aload_n 0 :: .new 0 :: .dup :: .aload_n 0 :: .getfield 1107 :: .invokeinterface 8 2 :: .putfield 1102 :: cs) [some (.ref 2)] [] (gh4 L xs) = rn 1 9 cs [some (.ref 2)] [] (gh5 L xs) := by
  have c : cal 8 [.ref 46, .ref 3] 9 (nC (gh4 L xs) 0 8) = some (none, caN (nC (gh4 L xs) 0 8) 46 3) := s_Ca_init ⟨rfl, Nat.le_of_ble_eq_true rfl⟩ (by omega) (by omega)
  rw [e_aload_n_0, e_new_0, e_dup_a, e_aload_n_0, G_1107 2 (show kd (nC (gh4 L xs) 0 8) 2 = 11 from rfl) (by omega), rn_cal _ _ _ _ _ _ _ _ (by simp) (by simp)]
  show (cal 8 [.ref 46, .ref 3] 9 (nC (gh4 L xs) 0 8)).bind (fun r => rn 1 9 (.putfield 1102 :: cs) [some (.ref 2)] (psh r.1 [.ref 46, .ref 2]) r.2) = _
  rw [c]
  show rn 1 9 (.putfield 1102 :: cs) [some (.ref 2)] [.ref 46, .ref 2] (caN (nC (gh4 L xs) 0 8) 46 3) = _
  rw [P_1102 2 46 (show kd (caN (nC (gh4 L xs) 0 8) 46 3) 2 = 11 from rfl) (by omega)]
  rfl
def gh6 (L : Nat) (xs : Nat → Int32) : MH := sR (snN (nC (gh5 L xs) 8 6) 53 3) 2 3 (.ref 53)
theorem gs6 {L : Nat} {xs : Nat → Int32} {cs : List IR} : rn 1 9 (.aload_n 0 :: .new 8 :: .dup :: .aload_n 0 :: .getfield 1107 :: .invokeinterface 9 2 :: .putfield 1103 :: cs) [some (.ref 2)] [] (gh5 L xs) = rn 1 9 cs [some (.ref 2)] [] (gh6 L xs) := by
  have c : cal 9 [.ref 53, .ref 3] 9 (nC (gh5 L xs) 8 6) = some (none, snN (nC (gh5 L xs) 8 6) 53 3) := s_Sn_init ⟨rfl, Nat.le_of_ble_eq_true rfl⟩ (by omega) (by omega)
  rw [e_aload_n_0, e_new_8, e_dup_a, e_aload_n_0, G_1107 2 (show kd (nC (gh5 L xs) 8 6) 2 = 11 from rfl) (by omega), rn_cal _ _ _ _ _ _ _ _ (by simp) (by simp)]
  show (cal 9 [.ref 53, .ref 3] 9 (nC (gh5 L xs) 8 6)).bind (fun r => rn 1 9 (.putfield 1103 :: cs) [some (.ref 2)] (psh r.1 [.ref 53, .ref 2]) r.2) = _
  rw [c]
  show rn 1 9 (.putfield 1103 :: cs) [some (.ref 2)] [.ref 53, .ref 2] (snN (nC (gh5 L xs) 8 6) 53 3) = _
  rw [P_1103 2 53 (show kd (snN (nC (gh5 L xs) 8 6) 53 3) 2 = 11 from rfl) (by omega)]
  rfl
def gh7 (L : Nat) (xs : Nat → Int32) : MH := sR (wiN (nC (gh6 L xs) 10 3) 55) 2 4 (.ref 55)
theorem gs7 {L : Nat} {xs : Nat → Int32} {cs : List IR} : rn 1 9 (.aload_n 0 :: .new 10 :: .dup :: .invokeinterface 10 1 :: .putfield 1104 :: cs) [some (.ref 2)] [] (gh6 L xs) = rn 1 9 cs [some (.ref 2)] [] (gh7 L xs) := by
  have c : cal 10 [.ref 55] 9 (nC (gh6 L xs) 10 3) = some (none, wiN (nC (gh6 L xs) 10 3) 55) := s_Wi_init ⟨rfl, Nat.le_of_ble_eq_true rfl⟩ (by omega) (by omega)
  rw [e_aload_n_0, e_new_10, e_dup_a, rn_cal _ _ _ _ _ _ _ _ (by simp) (by simp)]
  show (cal 10 [.ref 55] 9 (nC (gh6 L xs) 10 3)).bind (fun r => rn 1 9 (.putfield 1104 :: cs) [some (.ref 2)] (psh r.1 [.ref 55, .ref 2]) r.2) = _
  rw [c]
  show rn 1 9 (.putfield 1104 :: cs) [some (.ref 2)] [.ref 55, .ref 2] (wiN (nC (gh6 L xs) 10 3) 55) = _
  rw [P_1104 2 55 (show kd (wiN (nC (gh6 L xs) 10 3) 55) 2 = 11 from rfl) (by omega)]
  rfl
def gh8 (L : Nat) (xs : Nat → Int32) : MH := sR (juN (nC (gh7 L xs) 2 7) 58) 2 5 (.ref 58)
theorem gs8 {L : Nat} {xs : Nat → Int32} {cs : List IR} : rn 1 9 (.aload_n 0 :: .new 2 :: .dup :: .invokeinterface 11 1 :: .putfield 1105 :: cs) [some (.ref 2)] [] (gh7 L xs) = rn 1 9 cs [some (.ref 2)] [] (gh8 L xs) := by
  have c : cal 11 [.ref 58] 9 (nC (gh7 L xs) 2 7) = some (none, juN (nC (gh7 L xs) 2 7) 58) := s_Ju_init ⟨rfl, Nat.le_of_ble_eq_true rfl⟩ (by omega) (by omega)
  rw [e_aload_n_0, e_new_2, e_dup_a, rn_cal _ _ _ _ _ _ _ _ (by simp) (by simp)]
  show (cal 11 [.ref 58] 9 (nC (gh7 L xs) 2 7)).bind (fun r => rn 1 9 (.putfield 1105 :: cs) [some (.ref 2)] (psh r.1 [.ref 58, .ref 2]) r.2) = _
  rw [c]
  show rn 1 9 (.putfield 1105 :: cs) [some (.ref 2)] [.ref 58, .ref 2] (juN (nC (gh7 L xs) 2 7) 58) = _
  rw [P_1105 2 58 (show kd (juN (nC (gh7 L xs) 2 7) 58) 2 = 11 from rfl) (by omega)]
  rfl
def gh9 (L : Nat) (xs : Nat → Int32) : MH := sR (lyN (nC (gh8 L xs) 3 2) 64) 2 6 (.ref 64)
theorem gs9 {L : Nat} {xs : Nat → Int32} {cs : List IR} : rn 1 9 (.aload_n 0 :: .new 3 :: .dup :: .invokeinterface 12 1 :: .putfield 1106 :: cs) [some (.ref 2)] [] (gh8 L xs) = rn 1 9 cs [some (.ref 2)] [] (gh9 L xs) := by
  have c : cal 12 [.ref 64] 9 (nC (gh8 L xs) 3 2) = some (none, lyN (nC (gh8 L xs) 3 2) 64) := s_Ly_init ⟨rfl, Nat.le_of_ble_eq_true rfl⟩ (by omega) (by omega)
  rw [e_aload_n_0, e_new_3, e_dup_a, rn_cal _ _ _ _ _ _ _ _ (by simp) (by simp)]
  show (cal 12 [.ref 64] 9 (nC (gh8 L xs) 3 2)).bind (fun r => rn 1 9 (.putfield 1106 :: cs) [some (.ref 2)] (psh r.1 [.ref 64, .ref 2]) r.2) = _
  rw [c]
  show rn 1 9 (.putfield 1106 :: cs) [some (.ref 2)] [.ref 64, .ref 2] (lyN (nC (gh8 L xs) 3 2) 64) = _
  rw [P_1106 2 64 (show kd (lyN (nC (gh8 L xs) 3 2) 64) 2 = 11 from rfl) (by omega)]
  rfl
theorem gs_all {L : Nat} {xs : Nat → Int32} {g : MH} (s : cal 13 [.ref 2] 9 (gh9 L xs) = some (none, g)) : cal 1 [.ref 2] 90 (gh0 L xs) = some (none, g) := by
  rw [C_1 2 90 (gh0 L xs) rfl (by omega) (by omega), B_1_0, e_aload_n_0, e_objinit _ _ (by simp), gs1, gs2, gs3, gs4, gs5, gs6, gs7, gs8, gs9, e_aload_n_0, rn_cal _ _ _ _ _ _ _ _ (by simp) (by simp)]
  show (cal 13 [.ref 2] 9 (gh9 L xs)).bind (fun r => rn 1 9 [.return_] [some (.ref 2)] (psh r.1 []) r.2) = _
  rw [s]
  show rn 1 9 [.return_] [some (.ref 2)] [] g = _
  rw [R_1]
theorem gh_Bz {L : Nat} {xs : Nat → Int32} : Bz (gh9 L xs) := by
  unfold gh0 gh1 gh2 gh3 gh4 gh5 gh6 gh7 gh8 gh9 orN taN reN caN snN wiN juN lyN
  have b0 : Bz (hp0 L xs) := fun a j ha => by
    have ha : 2 ≤ a := ha
    show (if a = 0 then xs j else (0 : Int32)) = 0 ∧ (if a = 1 then rsv.getD j 0 else (0 : Int64)) = 0 ∧ Value.null = .null
    rw [if_neg (by omega), if_neg (by omega)]
    exact ⟨rfl, rfl, rfl⟩
  repeat first | exact b0 | exact Nat.le_of_ble_eq_true rfl | refine Bz_sR ?_ ?_ | refine Bz_nC ?_ | refine Bz_sI ?_ ?_
theorem gh_Cl {L : Nat} {xs : Nat → Int32} : ClA (gh9 L xs) := by
  unfold gh0 gh1 gh2 gh3 gh4 gh5 gh6 gh7 gh8 gh9 orN taN reN caN snN wiN juN lyN
  have b0 : ClA (hp0 L xs) := fun a j b e => by cases e
  repeat first | exact b0 | exact Nat.le_of_ble_eq_true rfl | refine ClA_sR ?_ ?_ | refine ClA_nC ?_ | refine ClA_sI ?_
/-- with the reference's cells, as they will lie -/
def moR (j : Nat) : Value := match RTB.find? (fun q => q.1 == 66 && q.2.1 == j) with
  | some q => .ref q.2.2
  | none => .null
def gB (L : Nat) (xs : Nat → Int32) : MH := ((gh9 L xs).1 ++ (SH 0).drop 66, (gh9 L xs).2.1, (gh9 L xs).2.2.1, fun a j => if a = 66 then moR j else (gh9 L xs).2.2.2 a j)
theorem gB_St {L : Nat} {xs : Nat → Int32} : St (gB L xs) := by
  refine ⟨⟨L, [], rfl⟩, ?_⟩
  unfold RTB
  repeat refine List.forall_mem_cons.mpr ⟨rfl, ?_⟩
  exact fun q hq => absurd hq (List.not_mem_nil)
theorem gB_cut {L : Nat} {xs : Nat → Int32} : cutH (gB L xs) = gh9 L xs := by
  have b := gh_Bz (L := L) (xs := xs)
  refine Prod.ext rfl (Prod.ext ?_ (Prod.ext ?_ ?_)) <;> funext a j
  · show (if a < 66 then gI (gh9 L xs) a j else 0) = gI (gh9 L xs) a j
    by_cases c : a < 66
    · rw [if_pos c]
    · rw [if_neg c]; exact ((b a j (show 66 ≤ a by omega)).1).symm
  · show (if a < 66 then gL (gh9 L xs) a j else 0) = gL (gh9 L xs) a j
    by_cases c : a < 66
    · rw [if_pos c]
    · rw [if_neg c]; exact ((b a j (show 66 ≤ a by omega)).2.1).symm
  · show (if a < 66 then (if a = 66 then moR j else gR (gh9 L xs) a j) else .null) = gR (gh9 L xs) a j
    by_cases c : a < 66
    · rw [if_pos c, if_neg (by omega)]
    · rw [if_neg c]; exact ((b a j (show 66 ≤ a by omega)).2.2).symm
theorem gB_Cl {L : Nat} {xs : Nat → Int32} : Cl6 (gB L xs) := fun a j ha => by
  show cuV (if a = 66 then moR j else gR (gh9 L xs) a j)
  rw [if_neg (by omega)]
  exact gh_Cl a j
