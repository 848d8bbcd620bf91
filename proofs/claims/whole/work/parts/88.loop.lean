/-! THE LAW'S LOOP, as long as orchard is a pair -/
abbrev lwL (i : Nat) : LV := [some (.ref 0), some (.ref 2), some (.ref 66), some (.int (nI i))]
def Lp (N : Nat) (h : MH) : Prop := (∃ o p D, INV o p D h) ∧ 2 ≤ h.1.length ∧ kd h 0 = 20 ∧ ln h 0 = N
def PR (k k' : Nat) (a : List Value) (h : MH) : Prop := ∃ o p D h1 h2 v, cal k (.ref 2 :: a) 90 h = some (some (.int v), h1) ∧ cal k' (.ref 66 :: a) 90 h1 = some (some (.int v), h2) ∧ INV o p D h2
theorem e_rd_1 {N i : Nat} {h : MH} {cs : List IR} {st : List Value} (h0 : kd h 0 = 20) (h1 : ln h 0 = N) (hi : i + 6 ≤ N) (hN : N ≤ 3072) : rn 0 90 (.aload_n 0 :: .iload_n 3 :: .iconst 1 :: .iadd :: .iaload :: cs) (lwL i) st h = rn 0 90 cs (lwL i) (.int (gI h 0 (i + 1)) :: st) h := by
  have e : nI i + 1 = nI (i + 1) := nI_add i 1
  rw [e_aload_n_0, e_iload_n_3, e_iconst_1, e_iadd, e, e_iaload, tc_nI (by omega)]
  · exact h0
  · rw [h1]
    exact inBd_nI (by omega) (by omega)
theorem e_rd_2 {N i : Nat} {h : MH} {cs : List IR} {st : List Value} (h0 : kd h 0 = 20) (h1 : ln h 0 = N) (hi : i + 6 ≤ N) (hN : N ≤ 3072) : rn 0 90 (.aload_n 0 :: .iload_n 3 :: .iconst 2 :: .iadd :: .iaload :: cs) (lwL i) st h = rn 0 90 cs (lwL i) (.int (gI h 0 (i + 2)) :: st) h := by
  have e : nI i + 2 = nI (i + 2) := nI_add i 2
  rw [e_aload_n_0, e_iload_n_3, e_iconst_2, e_iadd, e, e_iaload, tc_nI (by omega)]
  · exact h0
  · rw [h1]
    exact inBd_nI (by omega) (by omega)
theorem e_rd_3 {N i : Nat} {h : MH} {cs : List IR} {st : List Value} (h0 : kd h 0 = 20) (h1 : ln h 0 = N) (hi : i + 6 ≤ N) (hN : N ≤ 3072) : rn 0 90 (.aload_n 0 :: .iload_n 3 :: .iconst 3 :: .iadd :: .iaload :: cs) (lwL i) st h = rn 0 90 cs (lwL i) (.int (gI h 0 (i + 3)) :: st) h := by
  have e : nI i + 3 = nI (i + 3) := nI_add i 3
  rw [e_aload_n_0, e_iload_n_3, e_iconst_3, e_iadd, e, e_iaload, tc_nI (by omega)]
  · exact h0
  · rw [h1]
    exact inBd_nI (by omega) (by omega)
theorem e_rd_4 {N i : Nat} {h : MH} {cs : List IR} {st : List Value} (h0 : kd h 0 = 20) (h1 : ln h 0 = N) (hi : i + 6 ≤ N) (hN : N ≤ 3072) : rn 0 90 (.aload_n 0 :: .iload_n 3 :: .iconst 4 :: .iadd :: .iaload :: cs) (lwL i) st h = rn 0 90 cs (lwL i) (.int (gI h 0 (i + 4)) :: st) h := by
  have e : nI i + 4 = nI (i + 4) := nI_add i 4
  rw [e_aload_n_0, e_iload_n_3, e_iconst_4, e_iadd, e, e_iaload, tc_nI (by omega)]
  · exact h0
  · rw [h1]
    exact inBd_nI (by omega) (by omega)
theorem e_rd_5 {N i : Nat} {h : MH} {cs : List IR} {st : List Value} (h0 : kd h 0 = 20) (h1 : ln h 0 = N) (hi : i + 6 ≤ N) (hN : N ≤ 3072) : rn 0 90 (.aload_n 0 :: .iload_n 3 :: .iconst 5 :: .iadd :: .iaload :: cs) (lwL i) st h = rn 0 90 cs (lwL i) (.int (gI h 0 (i + 5)) :: st) h := by
  have e : nI i + 5 = nI (i + 5) := nI_add i 5
  rw [e_aload_n_0, e_iload_n_3, e_iconst_5, e_iadd, e, e_iaload, tc_nI (by omega)]
  · exact h0
  · rw [h1]
    exact inBd_nI (by omega) (by omega)
theorem lw_b0 {k k' N i : Nat} {h : MH} (hL : Lp N h) (hi : i + 6 ≤ N) (hN : N ≤ 3072) (P : PR k k' [] h) : ∃ h2, Lp N h2 ∧ rn 0 90 (.aload_n 1 :: .invokeinterface k 1 :: .aload_n 2 :: .invokeinterface k' 1 :: .if_icmp .eq 1346 :: .iconst 0 :: .ireturn :: []) (lwL i) [] h = rn 0 90 B_0_1346 (lwL i) [] h2 := by
  obtain ⟨o, p, D, h1, h2, v, c1, c2, hI⟩ := P
  obtain ⟨_, hlen, h0, hl⟩ := hL
  obtain ⟨l1, k1, d1, n1⟩ := kp_cal c1 hlen
  obtain ⟨l2, k2, d2, n2⟩ := kp_cal c2 l1
  have l1 : 2 ≤ h1.1.length := l1
  have k1 : ∀ k, gI h1 0 k = gI h 0 k := k1
  have g0 : kd h1 0 = 20 := d1.trans h0
  have gl : ln h1 0 = N := n1.trans hl
  refine ⟨h2, ⟨⟨o, p, D, hI⟩, l2, d2.trans g0, n2.trans gl⟩, ?_⟩
  rw [e_aload_n_1, rn_cal _ _ _ _ _ _ _ _ (by simp) (by simp)]
  have c1 : cal k [.ref 2] 90 h = some (some (.int v), h1) := c1
  have c2 : cal k' [.ref 66] 90 h1 = some (some (.int v), h2) := c2
  show (cal k [.ref 2] 90 h).bind (fun r => rn 0 90 _ (lwL i) (psh r.1 []) r.2) = _
  rw [c1]
  show rn 0 90 _ (lwL i) [.int v] h1 = _
  rw [e_aload_n_2, rn_cal _ _ _ _ _ _ _ _ (by simp) (by simp)]
  show (cal k' [.ref 66] 90 h1).bind (fun r => rn 0 90 _ (lwL i) (psh r.1 [.int v]) r.2) = _
  rw [c2]
  show rn 0 90 _ (lwL i) [.int v, .int v] h2 = _
  rw [e_ic_eq, if_pos rfl, T_0_1346]
theorem lw_b1 {k k' N i : Nat} {h : MH} (hL : Lp N h) (hi : i + 6 ≤ N) (hN : N ≤ 3072) (P : PR k k' [.int (gI h 0 (i + 1))] h) : ∃ h2, Lp N h2 ∧ rn 0 90 (.aload_n 1 :: .aload_n 0 :: .iload_n 3 :: .iconst 1 :: .iadd :: .iaload :: .invokeinterface k 2 :: .aload_n 2 :: .aload_n 0 :: .iload_n 3 :: .iconst 1 :: .iadd :: .iaload :: .invokeinterface k' 2 :: .if_icmp .eq 1346 :: .iconst 0 :: .ireturn :: []) (lwL i) [] h = rn 0 90 B_0_1346 (lwL i) [] h2 := by
  obtain ⟨o, p, D, h1, h2, v, c1, c2, hI⟩ := P
  obtain ⟨_, hlen, h0, hl⟩ := hL
  obtain ⟨l1, k1, d1, n1⟩ := kp_cal c1 hlen
  obtain ⟨l2, k2, d2, n2⟩ := kp_cal c2 l1
  have l1 : 2 ≤ h1.1.length := l1
  have k1 : ∀ k, gI h1 0 k = gI h 0 k := k1
  have g0 : kd h1 0 = 20 := d1.trans h0
  have gl : ln h1 0 = N := n1.trans hl
  refine ⟨h2, ⟨⟨o, p, D, hI⟩, l2, d2.trans g0, n2.trans gl⟩, ?_⟩
  rw [e_aload_n_1, e_rd_1 h0 hl hi hN, rn_cal _ _ _ _ _ _ _ _ (by simp) (by simp)]
  have c1 : cal k [.ref 2, .int (gI h 0 (i + 1))] 90 h = some (some (.int v), h1) := c1
  have c2 : cal k' [.ref 66, .int (gI h 0 (i + 1))] 90 h1 = some (some (.int v), h2) := c2
  show (cal k [.ref 2, .int (gI h 0 (i + 1))] 90 h).bind (fun r => rn 0 90 _ (lwL i) (psh r.1 []) r.2) = _
  rw [c1]
  show rn 0 90 _ (lwL i) [.int v] h1 = _
  rw [e_aload_n_2, e_rd_1 g0 gl hi hN, rn_cal _ _ _ _ _ _ _ _ (by simp) (by simp)]
  rw [k1 (i + 1)]
  show (cal k' [.ref 66, .int (gI h 0 (i + 1))] 90 h1).bind (fun r => rn 0 90 _ (lwL i) (psh r.1 [.int v]) r.2) = _
  rw [c2]
  show rn 0 90 _ (lwL i) [.int v, .int v] h2 = _
  rw [e_ic_eq, if_pos rfl, T_0_1346]
theorem lgc_rf (v : Int64) : lg_cmp v v = 0 := by
  simp [lg_cmp]
theorem lw_b1l {k k' N i : Nat} {h : MH} (hL : Lp N h) (hi : i + 6 ≤ N) (hN : N ≤ 3072) (P : ∃ o p D h1 h2 v, cal k [.ref 2, .int (gI h 0 (i + 1))] 90 h = some (some (.long v), h1) ∧ cal k' [.ref 66, .int (gI h 0 (i + 1))] 90 h1 = some (some (.long v), h2) ∧ INV o p D h2) : ∃ h2, Lp N h2 ∧ rn 0 90 (.aload_n 1 :: .aload_n 0 :: .iload_n 3 :: .iconst 1 :: .iadd :: .iaload :: .invokeinterface k 2 :: .aload_n 2 :: .aload_n 0 :: .iload_n 3 :: .iconst 1 :: .iadd :: .iaload :: .invokeinterface k' 2 :: .lcmp :: .ifCond .eq 1346 :: .iconst 0 :: .ireturn :: []) (lwL i) [] h = rn 0 90 B_0_1346 (lwL i) [] h2 := by
  obtain ⟨o, p, D, h1, h2, v, c1, c2, hI⟩ := P
  obtain ⟨_, hlen, h0, hl⟩ := hL
  obtain ⟨l1, k1, d1, n1⟩ := kp_cal c1 hlen
  obtain ⟨l2, k2, d2, n2⟩ := kp_cal c2 l1
  have l1 : 2 ≤ h1.1.length := l1
  have k1 : ∀ k, gI h1 0 k = gI h 0 k := k1
  have g0 : kd h1 0 = 20 := d1.trans h0
  have gl : ln h1 0 = N := n1.trans hl
  refine ⟨h2, ⟨⟨o, p, D, hI⟩, l2, d2.trans g0, n2.trans gl⟩, ?_⟩
  rw [e_aload_n_1, e_rd_1 h0 hl hi hN, rn_cal _ _ _ _ _ _ _ _ (by simp) (by simp)]
  have c1 : cal k [.ref 2, .int (gI h 0 (i + 1))] 90 h = some (some (.long v), h1) := c1
  have c2 : cal k' [.ref 66, .int (gI h 0 (i + 1))] 90 h1 = some (some (.long v), h2) := c2
  show (cal k [.ref 2, .int (gI h 0 (i + 1))] 90 h).bind (fun r => rn 0 90 _ (lwL i) (psh r.1 []) r.2) = _
  rw [c1]
  show rn 0 90 _ (lwL i) [.long v] h1 = _
  rw [e_aload_n_2, e_rd_1 g0 gl hi hN, rn_cal _ _ _ _ _ _ _ _ (by simp) (by simp)]
  rw [k1 (i + 1)]
  show (cal k' [.ref 66, .int (gI h 0 (i + 1))] 90 h1).bind (fun r => rn 0 90 _ (lwL i) (psh r.1 [.long v]) r.2) = _
  rw [c2]
  show rn 0 90 _ (lwL i) [.long v, .long v] h2 = _
  rw [e_lcmp, e_if_eq, if_pos (lgc_rf v), T_0_1346]
theorem lw_b2 {k k' N i : Nat} {h : MH} (hL : Lp N h) (hi : i + 6 ≤ N) (hN : N ≤ 3072) (P : PR k k' [.int (gI h 0 (i + 1)), .int (gI h 0 (i + 2))] h) : ∃ h2, Lp N h2 ∧ rn 0 90 (.aload_n 1 :: .aload_n 0 :: .iload_n 3 :: .iconst 1 :: .iadd :: .iaload :: .aload_n 0 :: .iload_n 3 :: .iconst 2 :: .iadd :: .iaload :: .invokeinterface k 3 :: .aload_n 2 :: .aload_n 0 :: .iload_n 3 :: .iconst 1 :: .iadd :: .iaload :: .aload_n 0 :: .iload_n 3 :: .iconst 2 :: .iadd :: .iaload :: .invokeinterface k' 3 :: .if_icmp .eq 1346 :: .iconst 0 :: .ireturn :: []) (lwL i) [] h = rn 0 90 B_0_1346 (lwL i) [] h2 := by
  obtain ⟨o, p, D, h1, h2, v, c1, c2, hI⟩ := P
  obtain ⟨_, hlen, h0, hl⟩ := hL
  obtain ⟨l1, k1, d1, n1⟩ := kp_cal c1 hlen
  obtain ⟨l2, k2, d2, n2⟩ := kp_cal c2 l1
  have l1 : 2 ≤ h1.1.length := l1
  have k1 : ∀ k, gI h1 0 k = gI h 0 k := k1
  have g0 : kd h1 0 = 20 := d1.trans h0
  have gl : ln h1 0 = N := n1.trans hl
  refine ⟨h2, ⟨⟨o, p, D, hI⟩, l2, d2.trans g0, n2.trans gl⟩, ?_⟩
  rw [e_aload_n_1, e_rd_1 h0 hl hi hN, e_rd_2 h0 hl hi hN, rn_cal _ _ _ _ _ _ _ _ (by simp) (by simp)]
  have c1 : cal k [.ref 2, .int (gI h 0 (i + 1)), .int (gI h 0 (i + 2))] 90 h = some (some (.int v), h1) := c1
  have c2 : cal k' [.ref 66, .int (gI h 0 (i + 1)), .int (gI h 0 (i + 2))] 90 h1 = some (some (.int v), h2) := c2
  show (cal k [.ref 2, .int (gI h 0 (i + 1)), .int (gI h 0 (i + 2))] 90 h).bind (fun r => rn 0 90 _ (lwL i) (psh r.1 []) r.2) = _
  rw [c1]
  show rn 0 90 _ (lwL i) [.int v] h1 = _
  rw [e_aload_n_2, e_rd_1 g0 gl hi hN, e_rd_2 g0 gl hi hN, rn_cal _ _ _ _ _ _ _ _ (by simp) (by simp)]
  rw [k1 (i + 1), k1 (i + 2)]
  show (cal k' [.ref 66, .int (gI h 0 (i + 1)), .int (gI h 0 (i + 2))] 90 h1).bind (fun r => rn 0 90 _ (lwL i) (psh r.1 [.int v]) r.2) = _
  rw [c2]
  show rn 0 90 _ (lwL i) [.int v, .int v] h2 = _
  rw [e_ic_eq, if_pos rfl, T_0_1346]
theorem lw_b3 {k k' N i : Nat} {h : MH} (hL : Lp N h) (hi : i + 6 ≤ N) (hN : N ≤ 3072) (P : PR k k' [.int (gI h 0 (i + 1)), .int (gI h 0 (i + 2)), .int (gI h 0 (i + 3))] h) : ∃ h2, Lp N h2 ∧ rn 0 90 (.aload_n 1 :: .aload_n 0 :: .iload_n 3 :: .iconst 1 :: .iadd :: .iaload :: .aload_n 0 :: .iload_n 3 :: .iconst 2 :: .iadd :: .iaload :: .aload_n 0 :: .iload_n 3 :: .iconst 3 :: .iadd :: .iaload :: .invokeinterface k 4 :: .aload_n 2 :: .aload_n 0 :: .iload_n 3 :: .iconst 1 :: .iadd :: .iaload :: .aload_n 0 :: .iload_n 3 :: .iconst 2 :: .iadd :: .iaload :: .aload_n 0 :: .iload_n 3 :: .iconst 3 :: .iadd :: .iaload :: .invokeinterface k' 4 :: .if_icmp .eq 1346 :: .iconst 0 :: .ireturn :: []) (lwL i) [] h = rn 0 90 B_0_1346 (lwL i) [] h2 := by
  obtain ⟨o, p, D, h1, h2, v, c1, c2, hI⟩ := P
  obtain ⟨_, hlen, h0, hl⟩ := hL
  obtain ⟨l1, k1, d1, n1⟩ := kp_cal c1 hlen
  obtain ⟨l2, k2, d2, n2⟩ := kp_cal c2 l1
  have l1 : 2 ≤ h1.1.length := l1
  have k1 : ∀ k, gI h1 0 k = gI h 0 k := k1
  have g0 : kd h1 0 = 20 := d1.trans h0
  have gl : ln h1 0 = N := n1.trans hl
  refine ⟨h2, ⟨⟨o, p, D, hI⟩, l2, d2.trans g0, n2.trans gl⟩, ?_⟩
  rw [e_aload_n_1, e_rd_1 h0 hl hi hN, e_rd_2 h0 hl hi hN, e_rd_3 h0 hl hi hN, rn_cal _ _ _ _ _ _ _ _ (by simp) (by simp)]
  have c1 : cal k [.ref 2, .int (gI h 0 (i + 1)), .int (gI h 0 (i + 2)), .int (gI h 0 (i + 3))] 90 h = some (some (.int v), h1) := c1
  have c2 : cal k' [.ref 66, .int (gI h 0 (i + 1)), .int (gI h 0 (i + 2)), .int (gI h 0 (i + 3))] 90 h1 = some (some (.int v), h2) := c2
  show (cal k [.ref 2, .int (gI h 0 (i + 1)), .int (gI h 0 (i + 2)), .int (gI h 0 (i + 3))] 90 h).bind (fun r => rn 0 90 _ (lwL i) (psh r.1 []) r.2) = _
  rw [c1]
  show rn 0 90 _ (lwL i) [.int v] h1 = _
  rw [e_aload_n_2, e_rd_1 g0 gl hi hN, e_rd_2 g0 gl hi hN, e_rd_3 g0 gl hi hN, rn_cal _ _ _ _ _ _ _ _ (by simp) (by simp)]
  rw [k1 (i + 1), k1 (i + 2), k1 (i + 3)]
  show (cal k' [.ref 66, .int (gI h 0 (i + 1)), .int (gI h 0 (i + 2)), .int (gI h 0 (i + 3))] 90 h1).bind (fun r => rn 0 90 _ (lwL i) (psh r.1 [.int v]) r.2) = _
  rw [c2]
  show rn 0 90 _ (lwL i) [.int v, .int v] h2 = _
  rw [e_ic_eq, if_pos rfl, T_0_1346]
theorem lw_b4 {k k' N i : Nat} {h : MH} (hL : Lp N h) (hi : i + 6 ≤ N) (hN : N ≤ 3072) (P : PR k k' [.int (gI h 0 (i + 1)), .int (gI h 0 (i + 2)), .int (gI h 0 (i + 3)), .int (gI h 0 (i + 4))] h) : ∃ h2, Lp N h2 ∧ rn 0 90 (.aload_n 1 :: .aload_n 0 :: .iload_n 3 :: .iconst 1 :: .iadd :: .iaload :: .aload_n 0 :: .iload_n 3 :: .iconst 2 :: .iadd :: .iaload :: .aload_n 0 :: .iload_n 3 :: .iconst 3 :: .iadd :: .iaload :: .aload_n 0 :: .iload_n 3 :: .iconst 4 :: .iadd :: .iaload :: .invokeinterface k 5 :: .aload_n 2 :: .aload_n 0 :: .iload_n 3 :: .iconst 1 :: .iadd :: .iaload :: .aload_n 0 :: .iload_n 3 :: .iconst 2 :: .iadd :: .iaload :: .aload_n 0 :: .iload_n 3 :: .iconst 3 :: .iadd :: .iaload :: .aload_n 0 :: .iload_n 3 :: .iconst 4 :: .iadd :: .iaload :: .invokeinterface k' 5 :: .if_icmp .eq 1346 :: .iconst 0 :: .ireturn :: []) (lwL i) [] h = rn 0 90 B_0_1346 (lwL i) [] h2 := by
  obtain ⟨o, p, D, h1, h2, v, c1, c2, hI⟩ := P
  obtain ⟨_, hlen, h0, hl⟩ := hL
  obtain ⟨l1, k1, d1, n1⟩ := kp_cal c1 hlen
  obtain ⟨l2, k2, d2, n2⟩ := kp_cal c2 l1
  have l1 : 2 ≤ h1.1.length := l1
  have k1 : ∀ k, gI h1 0 k = gI h 0 k := k1
  have g0 : kd h1 0 = 20 := d1.trans h0
  have gl : ln h1 0 = N := n1.trans hl
  refine ⟨h2, ⟨⟨o, p, D, hI⟩, l2, d2.trans g0, n2.trans gl⟩, ?_⟩
  rw [e_aload_n_1, e_rd_1 h0 hl hi hN, e_rd_2 h0 hl hi hN, e_rd_3 h0 hl hi hN, e_rd_4 h0 hl hi hN, rn_cal _ _ _ _ _ _ _ _ (by simp) (by simp)]
  have c1 : cal k [.ref 2, .int (gI h 0 (i + 1)), .int (gI h 0 (i + 2)), .int (gI h 0 (i + 3)), .int (gI h 0 (i + 4))] 90 h = some (some (.int v), h1) := c1
  have c2 : cal k' [.ref 66, .int (gI h 0 (i + 1)), .int (gI h 0 (i + 2)), .int (gI h 0 (i + 3)), .int (gI h 0 (i + 4))] 90 h1 = some (some (.int v), h2) := c2
  show (cal k [.ref 2, .int (gI h 0 (i + 1)), .int (gI h 0 (i + 2)), .int (gI h 0 (i + 3)), .int (gI h 0 (i + 4))] 90 h).bind (fun r => rn 0 90 _ (lwL i) (psh r.1 []) r.2) = _
  rw [c1]
  show rn 0 90 _ (lwL i) [.int v] h1 = _
  rw [e_aload_n_2, e_rd_1 g0 gl hi hN, e_rd_2 g0 gl hi hN, e_rd_3 g0 gl hi hN, e_rd_4 g0 gl hi hN, rn_cal _ _ _ _ _ _ _ _ (by simp) (by simp)]
  rw [k1 (i + 1), k1 (i + 2), k1 (i + 3), k1 (i + 4)]
  show (cal k' [.ref 66, .int (gI h 0 (i + 1)), .int (gI h 0 (i + 2)), .int (gI h 0 (i + 3)), .int (gI h 0 (i + 4))] 90 h1).bind (fun r => rn 0 90 _ (lwL i) (psh r.1 [.int v]) r.2) = _
  rw [c2]
  show rn 0 90 _ (lwL i) [.int v, .int v] h2 = _
  rw [e_ic_eq, if_pos rfl, T_0_1346]
theorem lw_b5 {k k' N i : Nat} {h : MH} (hL : Lp N h) (hi : i + 6 ≤ N) (hN : N ≤ 3072) (P : PR k k' [.int (gI h 0 (i + 1)), .int (gI h 0 (i + 2)), .int (gI h 0 (i + 3)), .int (gI h 0 (i + 4)), .int (gI h 0 (i + 5))] h) : ∃ h2, Lp N h2 ∧ rn 0 90 (.aload_n 1 :: .aload_n 0 :: .iload_n 3 :: .iconst 1 :: .iadd :: .iaload :: .aload_n 0 :: .iload_n 3 :: .iconst 2 :: .iadd :: .iaload :: .aload_n 0 :: .iload_n 3 :: .iconst 3 :: .iadd :: .iaload :: .aload_n 0 :: .iload_n 3 :: .iconst 4 :: .iadd :: .iaload :: .aload_n 0 :: .iload_n 3 :: .iconst 5 :: .iadd :: .iaload :: .invokeinterface k 6 :: .aload_n 2 :: .aload_n 0 :: .iload_n 3 :: .iconst 1 :: .iadd :: .iaload :: .aload_n 0 :: .iload_n 3 :: .iconst 2 :: .iadd :: .iaload :: .aload_n 0 :: .iload_n 3 :: .iconst 3 :: .iadd :: .iaload :: .aload_n 0 :: .iload_n 3 :: .iconst 4 :: .iadd :: .iaload :: .aload_n 0 :: .iload_n 3 :: .iconst 5 :: .iadd :: .iaload :: .invokeinterface k' 6 :: .if_icmp .eq 1346 :: .iconst 0 :: .ireturn :: []) (lwL i) [] h = rn 0 90 B_0_1346 (lwL i) [] h2 := by
  obtain ⟨o, p, D, h1, h2, v, c1, c2, hI⟩ := P
  obtain ⟨_, hlen, h0, hl⟩ := hL
  obtain ⟨l1, k1, d1, n1⟩ := kp_cal c1 hlen
  obtain ⟨l2, k2, d2, n2⟩ := kp_cal c2 l1
  have l1 : 2 ≤ h1.1.length := l1
  have k1 : ∀ k, gI h1 0 k = gI h 0 k := k1
  have g0 : kd h1 0 = 20 := d1.trans h0
  have gl : ln h1 0 = N := n1.trans hl
  refine ⟨h2, ⟨⟨o, p, D, hI⟩, l2, d2.trans g0, n2.trans gl⟩, ?_⟩
  rw [e_aload_n_1, e_rd_1 h0 hl hi hN, e_rd_2 h0 hl hi hN, e_rd_3 h0 hl hi hN, e_rd_4 h0 hl hi hN, e_rd_5 h0 hl hi hN, rn_cal _ _ _ _ _ _ _ _ (by simp) (by simp)]
  have c1 : cal k [.ref 2, .int (gI h 0 (i + 1)), .int (gI h 0 (i + 2)), .int (gI h 0 (i + 3)), .int (gI h 0 (i + 4)), .int (gI h 0 (i + 5))] 90 h = some (some (.int v), h1) := c1
  have c2 : cal k' [.ref 66, .int (gI h 0 (i + 1)), .int (gI h 0 (i + 2)), .int (gI h 0 (i + 3)), .int (gI h 0 (i + 4)), .int (gI h 0 (i + 5))] 90 h1 = some (some (.int v), h2) := c2
  show (cal k [.ref 2, .int (gI h 0 (i + 1)), .int (gI h 0 (i + 2)), .int (gI h 0 (i + 3)), .int (gI h 0 (i + 4)), .int (gI h 0 (i + 5))] 90 h).bind (fun r => rn 0 90 _ (lwL i) (psh r.1 []) r.2) = _
  rw [c1]
  show rn 0 90 _ (lwL i) [.int v] h1 = _
  rw [e_aload_n_2, e_rd_1 g0 gl hi hN, e_rd_2 g0 gl hi hN, e_rd_3 g0 gl hi hN, e_rd_4 g0 gl hi hN, e_rd_5 g0 gl hi hN, rn_cal _ _ _ _ _ _ _ _ (by simp) (by simp)]
  rw [k1 (i + 1), k1 (i + 2), k1 (i + 3), k1 (i + 4), k1 (i + 5)]
  show (cal k' [.ref 66, .int (gI h 0 (i + 1)), .int (gI h 0 (i + 2)), .int (gI h 0 (i + 3)), .int (gI h 0 (i + 4)), .int (gI h 0 (i + 5))] 90 h1).bind (fun r => rn 0 90 _ (lwL i) (psh r.1 [.int v]) r.2) = _
  rw [c2]
  show rn 0 90 _ (lwL i) [.int v, .int v] h2 = _
  rw [e_ic_eq, if_pos rfl, T_0_1346]
theorem lw_t212 {N i : Nat} {h : MH} (hL : Lp N h) (hi : i + 6 ≤ N) (hN : N ≤ 3072) : ∃ h2, Lp N h2 ∧ rn 0 90 (tgt 0 212) (lwL i) [] h = rn 0 90 B_0_1346 (lwL i) [] h2 := by
  obtain ⟨o, p, D, hI⟩ := hL.1
  obtain ⟨h1, h2, v, c1, c2, hJ⟩ := p_feed hI (gI h 0 (i + 1)) (gI h 0 (i + 2)) (gI h 0 (i + 3)) (gI h 0 (i + 4)) (gI h 0 (i + 5)) (μ := 90) (by decide)
  exact lw_b5 hL hi hN ⟨o, p, D, h1, h2, v, c1, c2, hJ⟩
theorem lw_t275 {N i : Nat} {h : MH} (hL : Lp N h) (hi : i + 6 ≤ N) (hN : N ≤ 3072) : ∃ h2, Lp N h2 ∧ rn 0 90 (tgt 0 275) (lwL i) [] h = rn 0 90 B_0_1346 (lwL i) [] h2 := by
  obtain ⟨o, p, D, hI⟩ := hL.1
  obtain ⟨h1, h2, v, c1, c2, hJ⟩ := p_end hI (gI h 0 (i + 1)) (μ := 90) (by decide)
  exact lw_b1 hL hi hN ⟨o, p, D, h1, h2, v, c1, c2, hJ⟩
theorem lw_t298 {N i : Nat} {h : MH} (HO : ∀ {o p : Nat} {L : LD} {h : MH}, INV o p L h → PR 37 209 [] h) (hL : Lp N h) (hi : i + 6 ≤ N) (hN : N ≤ 3072) : ∃ h2, Lp N h2 ∧ rn 0 90 (tgt 0 298) (lwL i) [] h = rn 0 90 B_0_1346 (lwL i) [] h2 := by
  obtain ⟨o, p, D, hI⟩ := hL.1
  exact lw_b0 hL hi hN (HO hI)
theorem lw_t311 {N i : Nat} {h : MH} (hL : Lp N h) (hi : i + 6 ≤ N) (hN : N ≤ 3072) : ∃ h2, Lp N h2 ∧ rn 0 90 (tgt 0 311) (lwL i) [] h = rn 0 90 B_0_1346 (lwL i) [] h2 := by
  obtain ⟨o, p, D, hI⟩ := hL.1
  obtain ⟨v, c1, c2⟩ := p_fault hI.1.1.1 hI.2.1.2.1 (gI h 0 (i + 1)) (μ := 90) (by decide)
  exact lw_b1 hL hi hN ⟨o, p, D, h, h, v, c1, c2, hI⟩
theorem lw_t334 {N i : Nat} {h : MH} (hL : Lp N h) (hi : i + 6 ≤ N) (hN : N ≤ 3072) : ∃ h2, Lp N h2 ∧ rn 0 90 (tgt 0 334) (lwL i) [] h = rn 0 90 B_0_1346 (lwL i) [] h2 := by
  obtain ⟨o, p, D, hI⟩ := hL.1
  obtain ⟨v, c1, c2⟩ := p_trait hI.1 (gI h 0 (i + 1)) (gI h 0 (i + 2)) (μ := 90) (by decide)
  exact lw_b2 hL hi hN ⟨o, p, D, h, h, v, c1, c2, hI⟩
theorem lw_t367 {N i : Nat} {h : MH} (hL : Lp N h) (hi : i + 6 ≤ N) (hN : N ≤ 3072) : ∃ h2, Lp N h2 ∧ rn 0 90 (tgt 0 367) (lwL i) [] h = rn 0 90 B_0_1346 (lwL i) [] h2 := by
  obtain ⟨o, p, D, hI⟩ := hL.1
  obtain ⟨v, c1, c2⟩ := p_clause hI.1 (gI h 0 (i + 1)) (gI h 0 (i + 2)) (μ := 90) (by decide)
  exact lw_b2 hL hi hN ⟨o, p, D, h, h, v, c1, c2, hI⟩
theorem lw_t400 {N i : Nat} {h : MH} (hL : Lp N h) (hi : i + 6 ≤ N) (hN : N ≤ 3072) : ∃ h2, Lp N h2 ∧ rn 0 90 (tgt 0 400) (lwL i) [] h = rn 0 90 B_0_1346 (lwL i) [] h2 := by
  obtain ⟨o, p, D, hI⟩ := hL.1
  obtain ⟨v, c1, c2⟩ := p_applies hI.1 (gI h 0 (i + 1)) (gI h 0 (i + 2)) (μ := 90) (by decide)
  exact lw_b2 hL hi hN ⟨o, p, D, h, h, v, c1, c2, hI⟩
theorem lw_t433 {N i : Nat} {h : MH} (hL : Lp N h) (hi : i + 6 ≤ N) (hN : N ≤ 3072) : ∃ h2, Lp N h2 ∧ rn 0 90 (tgt 0 433) (lwL i) [] h = rn 0 90 B_0_1346 (lwL i) [] h2 := by
  obtain ⟨o, p, D, hI⟩ := hL.1
  obtain ⟨v, c1, c2⟩ := p_over hI (gI h 0 (i + 1)) (gI h 0 (i + 2)) (μ := 90) (by decide)
  exact lw_b2 hL hi hN ⟨o, p, D, h, h, v, c1, c2, hI⟩
theorem lw_t466 {N i : Nat} {h : MH} (hL : Lp N h) (hi : i + 6 ≤ N) (hN : N ≤ 3072) : ∃ h2, Lp N h2 ∧ rn 0 90 (tgt 0 466) (lwL i) [] h = rn 0 90 B_0_1346 (lwL i) [] h2 := by
  obtain ⟨o, p, D, hI⟩ := hL.1
  obtain ⟨v, c1, c2⟩ := p_wide hI.1 (gI h 0 (i + 1)) (μ := 90) (by decide)
  exact lw_b1 hL hi hN ⟨o, p, D, h, h, v, c1, c2, hI⟩
theorem lw_t489 {N i : Nat} {h : MH} (hL : Lp N h) (hi : i + 6 ≤ N) (hN : N ≤ 3072) : ∃ h2, Lp N h2 ∧ rn 0 90 (tgt 0 489) (lwL i) [] h = rn 0 90 B_0_1346 (lwL i) [] h2 := by
  obtain ⟨o, p, D, hI⟩ := hL.1
  obtain ⟨h1, v, c1, mm, c2⟩ := p_follows hI.1 (gI h 0 (i + 1)) (gI h 0 (i + 2)) (μ := 90) (by decide)
  exact lw_b2 hL hi hN ⟨o, p, D, h1, h1, v, c1, c2, hI.mm mm⟩
theorem lw_t522 {N i : Nat} {h : MH} (hL : Lp N h) (hi : i + 6 ≤ N) (hN : N ≤ 3072) : ∃ h2, Lp N h2 ∧ rn 0 90 (tgt 0 522) (lwL i) [] h = rn 0 90 B_0_1346 (lwL i) [] h2 := by
  obtain ⟨o, p, D, hI⟩ := hL.1
  obtain ⟨h1, v, c1, mm, c2⟩ := p_many hI.1 (gI h 0 (i + 1)) (gI h 0 (i + 2)) (μ := 90) (by decide)
  exact lw_b2 hL hi hN ⟨o, p, D, h1, h1, v, c1, c2, hI.mm mm⟩
theorem lw_t555 {N i : Nat} {h : MH} (hL : Lp N h) (hi : i + 6 ≤ N) (hN : N ≤ 3072) : ∃ h2, Lp N h2 ∧ rn 0 90 (tgt 0 555) (lwL i) [] h = rn 0 90 B_0_1346 (lwL i) [] h2 := by
  obtain ⟨o, p, D, hI⟩ := hL.1
  obtain ⟨h1, v, c1, mm, c2⟩ := p_first hI.1 (gI h 0 (i + 1)) (gI h 0 (i + 2)) (μ := 90) (by decide)
  exact lw_b2 hL hi hN ⟨o, p, D, h1, h1, v, c1, c2, hI.mm mm⟩
theorem lw_t588 {N i : Nat} {h : MH} (hL : Lp N h) (hi : i + 6 ≤ N) (hN : N ≤ 3072) : ∃ h2, Lp N h2 ∧ rn 0 90 (tgt 0 588) (lwL i) [] h = rn 0 90 B_0_1346 (lwL i) [] h2 := by
  obtain ⟨o, p, D, hI⟩ := hL.1
  obtain ⟨v, c1, c2⟩ := p_may hI.1 (gI h 0 (i + 1)) (gI h 0 (i + 2)) (μ := 90) (by decide)
  exact lw_b2 hL hi hN ⟨o, p, D, h, h, v, c1, c2, hI⟩
theorem lw_t621 {N i : Nat} {h : MH} (hL : Lp N h) (hi : i + 6 ≤ N) (hN : N ≤ 3072) : ∃ h2, Lp N h2 ∧ rn 0 90 (tgt 0 621) (lwL i) [] h = rn 0 90 B_0_1346 (lwL i) [] h2 := by
  obtain ⟨o, p, D, hI⟩ := hL.1
  obtain ⟨p', h1, h2, v, c1, c2, hJ⟩ := p_graft hI (gI h 0 (i + 1)) (μ := 90) (by decide)
  exact lw_b1 hL hi hN ⟨o, p', D, h1, h2, v, c1, c2, hJ⟩
theorem lw_t644 {N i : Nat} {h : MH} (hL : Lp N h) (hi : i + 6 ≤ N) (hN : N ≤ 3072) : ∃ h2, Lp N h2 ∧ rn 0 90 (tgt 0 644) (lwL i) [] h = rn 0 90 B_0_1346 (lwL i) [] h2 := by
  obtain ⟨o, p, D, hI⟩ := hL.1
  obtain ⟨p', h1, h2, v, c1, c2, hJ⟩ := p_prune hI (gI h 0 (i + 1)) (μ := 90) (by decide)
  exact lw_b1 hL hi hN ⟨o, p', D, h1, h2, v, c1, c2, hJ⟩
theorem lw_t667 {N i : Nat} {h : MH} (hL : Lp N h) (hi : i + 6 ≤ N) (hN : N ≤ 3072) : ∃ h2, Lp N h2 ∧ rn 0 90 (tgt 0 667) (lwL i) [] h = rn 0 90 B_0_1346 (lwL i) [] h2 := by
  obtain ⟨o, p, D, hI⟩ := hL.1
  obtain ⟨p', h1, h2, v, c1, c2, hJ⟩ := p_year hI  (μ := 90) (by decide)
  exact lw_b0 hL hi hN ⟨o, p', D, h1, h2, v, c1, c2, hJ⟩
theorem lw_t680 {N i : Nat} {h : MH} (hL : Lp N h) (hi : i + 6 ≤ N) (hN : N ≤ 3072) : ∃ h2, Lp N h2 ∧ rn 0 90 (tgt 0 680) (lwL i) [] h = rn 0 90 B_0_1346 (lwL i) [] h2 := by
  obtain ⟨o, p, D, hI⟩ := hL.1
  obtain ⟨p', h1, h2, v, c1, c2, hJ⟩ := p_storm hI  (μ := 90) (by decide)
  exact lw_b0 hL hi hN ⟨o, p', D, h1, h2, v, c1, c2, hJ⟩
theorem lw_t693 {N i : Nat} {h : MH} (hL : Lp N h) (hi : i + 6 ≤ N) (hN : N ≤ 3072) : ∃ h2, Lp N h2 ∧ rn 0 90 (tgt 0 693) (lwL i) [] h = rn 0 90 B_0_1346 (lwL i) [] h2 := by
  obtain ⟨o, p, D, hI⟩ := hL.1
  obtain ⟨p', h1, h2, v, c1, c2, hJ⟩ := p_undo hI  (μ := 90) (by decide)
  exact lw_b0 hL hi hN ⟨o, p', D, h1, h2, v, c1, c2, hJ⟩
theorem lw_t706 {N i : Nat} {h : MH} (hL : Lp N h) (hi : i + 6 ≤ N) (hN : N ≤ 3072) : ∃ h2, Lp N h2 ∧ rn 0 90 (tgt 0 706) (lwL i) [] h = rn 0 90 B_0_1346 (lwL i) [] h2 := by
  obtain ⟨o, p, D, hI⟩ := hL.1
  obtain ⟨p', h1, h2, v, c1, c2, hJ⟩ := p_redo hI  (μ := 90) (by decide)
  exact lw_b0 hL hi hN ⟨o, p', D, h1, h2, v, c1, c2, hJ⟩
theorem lw_t719 {N i : Nat} {h : MH} (hL : Lp N h) (hi : i + 6 ≤ N) (hN : N ≤ 3072) : ∃ h2, Lp N h2 ∧ rn 0 90 (tgt 0 719) (lwL i) [] h = rn 0 90 B_0_1346 (lwL i) [] h2 := by
  obtain ⟨o, p, D, hI⟩ := hL.1
  obtain ⟨h1, h2, v, c1, c2, hJ⟩ := p_fruit hI (gI h 0 (i + 1)) (μ := 90) (by decide)
  exact lw_b1 hL hi hN ⟨o, p, D, h1, h2, v, c1, c2, hJ⟩
theorem lw_t742 {N i : Nat} {h : MH} (hL : Lp N h) (hi : i + 6 ≤ N) (hN : N ≤ 3072) : ∃ h2, Lp N h2 ∧ rn 0 90 (tgt 0 742) (lwL i) [] h = rn 0 90 B_0_1346 (lwL i) [] h2 := by
  obtain ⟨o, p, D, hI⟩ := hL.1
  obtain ⟨h1, h2, v, c1, c2, hJ⟩ := p_wish hI (gI h 0 (i + 1)) (gI h 0 (i + 2)) (μ := 90) (by decide)
  exact lw_b2 hL hi hN ⟨o, p, D, h1, h2, v, c1, c2, hJ⟩
theorem lw_t775 {N i : Nat} {h : MH} (hL : Lp N h) (hi : i + 6 ≤ N) (hN : N ≤ 3072) : ∃ h2, Lp N h2 ∧ rn 0 90 (tgt 0 775) (lwL i) [] h = rn 0 90 B_0_1346 (lwL i) [] h2 := by
  obtain ⟨o, p, D, hI⟩ := hL.1
  obtain ⟨h1, h2, v, c1, c2, hJ⟩ := p_hush hI  (μ := 90) (by decide)
  exact lw_b0 hL hi hN ⟨o, p, D, h1, h2, v, c1, c2, hJ⟩
theorem lw_t788 {N i : Nat} {h : MH} (hL : Lp N h) (hi : i + 6 ≤ N) (hN : N ≤ 3072) : ∃ h2, Lp N h2 ∧ rn 0 90 (tgt 0 788) (lwL i) [] h = rn 0 90 B_0_1346 (lwL i) [] h2 := by
  obtain ⟨o, p, D, hI⟩ := hL.1
  obtain ⟨h1, h2, v, c1, c2, hJ⟩ := p_least hI (gI h 0 (i + 1)) (μ := 90) (by decide)
  exact lw_b1 hL hi hN ⟨o, p, D, h1, h2, v, c1, c2, hJ⟩
theorem lw_t811 {N i : Nat} {h : MH} (hL : Lp N h) (hi : i + 6 ≤ N) (hN : N ≤ 3072) : ∃ h2, Lp N h2 ∧ rn 0 90 (tgt 0 811) (lwL i) [] h = rn 0 90 B_0_1346 (lwL i) [] h2 := by
  obtain ⟨o, p, D, hI⟩ := hL.1
  obtain ⟨h1, h2, v, c1, c2, hJ⟩ := p_pith hI (gI h 0 (i + 1)) (μ := 90) (by decide)
  exact lw_b1 hL hi hN ⟨o, p, D, h1, h2, v, c1, c2, hJ⟩
theorem lw_t834 {N i : Nat} {h : MH} (hL : Lp N h) (hi : i + 6 ≤ N) (hN : N ≤ 3072) : ∃ h2, Lp N h2 ∧ rn 0 90 (tgt 0 834) (lwL i) [] h = rn 0 90 B_0_1346 (lwL i) [] h2 := by
  obtain ⟨o, p, D, hI⟩ := hL.1
  obtain ⟨h1, h2, v, c1, c2, hJ⟩ := p_aim hI (gI h 0 (i + 1)) (μ := 90) (by decide)
  exact lw_b1 hL hi hN ⟨o, p, D, h1, h2, v, c1, c2, hJ⟩
theorem lw_t857 {N i : Nat} {h : MH} (hL : Lp N h) (hi : i + 6 ≤ N) (hN : N ≤ 3072) : ∃ h2, Lp N h2 ∧ rn 0 90 (tgt 0 857) (lwL i) [] h = rn 0 90 B_0_1346 (lwL i) [] h2 := by
  obtain ⟨o, p, D, hI⟩ := hL.1
  obtain ⟨h1, h2, v, c1, c2, hJ⟩ := p_holes hI (gI h 0 (i + 1)) (gI h 0 (i + 2)) (μ := 90) (by decide)
  exact lw_b2 hL hi hN ⟨o, p, D, h1, h2, v, c1, c2, hJ⟩
theorem lw_t890 {N i : Nat} {h : MH} (hL : Lp N h) (hi : i + 6 ≤ N) (hN : N ≤ 3072) : ∃ h2, Lp N h2 ∧ rn 0 90 (tgt 0 890) (lwL i) [] h = rn 0 90 B_0_1346 (lwL i) [] h2 := by
  obtain ⟨o, p, D, hI⟩ := hL.1
  obtain ⟨h1, h2, v, c1, c2, hJ⟩ := p_gains hI (gI h 0 (i + 1)) (μ := 90) (by decide)
  exact lw_b1l hL hi hN ⟨o, p, D, h1, h2, v, c1, c2, hJ⟩
theorem lw_t914 {N i : Nat} {h : MH} (hL : Lp N h) (hi : i + 6 ≤ N) (hN : N ≤ 3072) : ∃ h2, Lp N h2 ∧ rn 0 90 (tgt 0 914) (lwL i) [] h = rn 0 90 B_0_1346 (lwL i) [] h2 := by
  obtain ⟨o, p, D, hI⟩ := hL.1
  obtain ⟨h1, h2, v, c1, c2, hJ⟩ := p_mend hI (gI h 0 (i + 1)) (μ := 90) (by decide)
  exact lw_b1 hL hi hN ⟨o, p, D, h1, h2, v, c1, c2, hJ⟩
theorem lw_t937 {N i : Nat} {h : MH} (hL : Lp N h) (hi : i + 6 ≤ N) (hN : N ≤ 3072) : ∃ h2, Lp N h2 ∧ rn 0 90 (tgt 0 937) (lwL i) [] h = rn 0 90 B_0_1346 (lwL i) [] h2 := by
  obtain ⟨o, p, D, hI⟩ := hL.1
  obtain ⟨h1, h2, v, c1, c2, hJ⟩ := p_evade hI (gI h 0 (i + 1)) (gI h 0 (i + 2)) (μ := 90) (by decide)
  exact lw_b2 hL hi hN ⟨o, p, D, h1, h2, v, c1, c2, hJ⟩
theorem lw_t970 {N i : Nat} {h : MH} (hL : Lp N h) (hi : i + 6 ≤ N) (hN : N ≤ 3072) : ∃ h2, Lp N h2 ∧ rn 0 90 (tgt 0 970) (lwL i) [] h = rn 0 90 B_0_1346 (lwL i) [] h2 := by
  obtain ⟨o, p, D, hI⟩ := hL.1
  obtain ⟨h1, h2, v, c1, c2, hJ⟩ := p_unlike hI (gI h 0 (i + 1)) (gI h 0 (i + 2)) (μ := 90) (by decide)
  exact lw_b2 hL hi hN ⟨o, p, D, h1, h2, v, c1, c2, hJ⟩
theorem lw_t1003 {N i : Nat} {h : MH} (hL : Lp N h) (hi : i + 6 ≤ N) (hN : N ≤ 3072) : ∃ h2, Lp N h2 ∧ rn 0 90 (tgt 0 1003) (lwL i) [] h = rn 0 90 B_0_1346 (lwL i) [] h2 := by
  obtain ⟨o, p, D, hI⟩ := hL.1
  obtain ⟨h1, h2, v, c1, c2, hJ⟩ := p_reach hI (gI h 0 (i + 1)) (gI h 0 (i + 2)) (μ := 90) (by decide)
  exact lw_b2 hL hi hN ⟨o, p, D, h1, h2, v, c1, c2, hJ⟩
theorem lw_t1036 {N i : Nat} {h : MH} (hL : Lp N h) (hi : i + 6 ≤ N) (hN : N ≤ 3072) : ∃ h2, Lp N h2 ∧ rn 0 90 (tgt 0 1036) (lwL i) [] h = rn 0 90 B_0_1346 (lwL i) [] h2 := by
  obtain ⟨o, p, D, hI⟩ := hL.1
  obtain ⟨h1, h2, v, c1, c2, hJ⟩ := p_parties hI (gI h 0 (i + 1)) (gI h 0 (i + 2)) (gI h 0 (i + 3)) (μ := 90) (by decide)
  exact lw_b3 hL hi hN ⟨o, p, D, h1, h2, v, c1, c2, hJ⟩
theorem lw_t1079 {N i : Nat} {h : MH} (hL : Lp N h) (hi : i + 6 ≤ N) (hN : N ≤ 3072) : ∃ h2, Lp N h2 ∧ rn 0 90 (tgt 0 1079) (lwL i) [] h = rn 0 90 B_0_1346 (lwL i) [] h2 := by
  obtain ⟨o, p, D, hI⟩ := hL.1
  obtain ⟨v, c1, c2⟩ := p_lies hI (gI h 0 (i + 1)) (μ := 90) (by decide)
  exact lw_b1 hL hi hN ⟨o, p, D, h, h, v, c1, c2, hI⟩
theorem lw_t1102 {N i : Nat} {h : MH} (hL : Lp N h) (hi : i + 6 ≤ N) (hN : N ≤ 3072) : ∃ h2, Lp N h2 ∧ rn 0 90 (tgt 0 1102) (lwL i) [] h = rn 0 90 B_0_1346 (lwL i) [] h2 := by
  obtain ⟨o, p, D, hI⟩ := hL.1
  obtain ⟨h1, h2, v, c1, c2, hJ⟩ := p_judge hI (gI h 0 (i + 1)) (gI h 0 (i + 2)) (gI h 0 (i + 3)) (μ := 90) (by decide)
  exact lw_b3 hL hi hN ⟨o, p, D, h1, h2, v, c1, c2, hJ⟩
theorem lw_t1145 {N i : Nat} {h : MH} (hL : Lp N h) (hi : i + 6 ≤ N) (hN : N ≤ 3072) : ∃ h2, Lp N h2 ∧ rn 0 90 (tgt 0 1145) (lwL i) [] h = rn 0 90 B_0_1346 (lwL i) [] h2 := by
  obtain ⟨o, p, D, hI⟩ := hL.1
  obtain ⟨h1, h2, v, c1, c2, hJ⟩ := p_untell hI (gI h 0 (i + 1)) (μ := 90) (by decide)
  exact lw_b1 hL hi hN ⟨o, p, D, h1, h2, v, c1, c2, hJ⟩
theorem lw_t1168 {N i : Nat} {h : MH} (hL : Lp N h) (hi : i + 6 ≤ N) (hN : N ≤ 3072) : ∃ h2, Lp N h2 ∧ rn 0 90 (tgt 0 1168) (lwL i) [] h = rn 0 90 B_0_1346 (lwL i) [] h2 := by
  obtain ⟨o, p, D, hI⟩ := hL.1
  obtain ⟨h1, h2, v, c1, c2, hJ⟩ := p_later hI (gI h 0 (i + 1)) (μ := 90) (by decide)
  exact lw_b1 hL hi hN ⟨o, p, D, h1, h2, v, c1, c2, hJ⟩
theorem lw_t1191 {N i : Nat} {h : MH} (hL : Lp N h) (hi : i + 6 ≤ N) (hN : N ≤ 3072) : ∃ h2, Lp N h2 ∧ rn 0 90 (tgt 0 1191) (lwL i) [] h = rn 0 90 B_0_1346 (lwL i) [] h2 := by
  obtain ⟨o, p, D, hI⟩ := hL.1
  obtain ⟨h1, h2, v, c1, c2, hJ⟩ := p_can hI (gI h 0 (i + 1)) (gI h 0 (i + 2)) (gI h 0 (i + 3)) (μ := 90) (by decide)
  exact lw_b3 hL hi hN ⟨o, p, D, h1, h2, v, c1, c2, hJ⟩
theorem lw_t1234 {N i : Nat} {h : MH} (hL : Lp N h) (hi : i + 6 ≤ N) (hN : N ≤ 3072) : ∃ h2, Lp N h2 ∧ rn 0 90 (tgt 0 1234) (lwL i) [] h = rn 0 90 B_0_1346 (lwL i) [] h2 := by
  obtain ⟨o, p, D, hI⟩ := hL.1
  obtain ⟨h1, h2, v, c1, c2, hJ⟩ := p_ask hI (gI h 0 (i + 1)) (gI h 0 (i + 2)) (gI h 0 (i + 3)) (μ := 90) (by decide)
  exact lw_b3 hL hi hN ⟨o, p, D, h1, h2, v, c1, c2, hJ⟩
theorem lw_t1277 {N i : Nat} {h : MH} (hL : Lp N h) (hi : i + 6 ≤ N) (hN : N ≤ 3072) : ∃ h2, Lp N h2 ∧ rn 0 90 (tgt 0 1277) (lwL i) [] h = rn 0 90 B_0_1346 (lwL i) [] h2 := by
  obtain ⟨o, p, D, hI⟩ := hL.1
  obtain ⟨h1, h2, v, c1, c2, hJ⟩ := p_image hI (gI h 0 (i + 1)) (μ := 90) (by decide)
  exact lw_b1 hL hi hN ⟨o, p, D, h1, h2, v, c1, c2, hJ⟩
theorem lw_t1300 {N i : Nat} {h : MH} (hL : Lp N h) (hi : i + 6 ≤ N) (hN : N ≤ 3072) : ∃ h2, Lp N h2 ∧ rn 0 90 (tgt 0 1300) (lwL i) [] h = rn 0 90 B_0_1346 (lwL i) [] h2 := by
  obtain ⟨o, p, D, hI⟩ := hL.1
  obtain ⟨h1, h2, v, c1, c2, hJ⟩ := p_back hI (gI h 0 (i + 1)) (μ := 90) (by decide)
  exact lw_b1 hL hi hN ⟨o, p, D, h1, h2, v, c1, c2, hJ⟩
theorem lw_t1323 {N i : Nat} {h : MH} (hL : Lp N h) (hi : i + 6 ≤ N) (hN : N ≤ 3072) : ∃ h2, Lp N h2 ∧ rn 0 90 (tgt 0 1323) (lwL i) [] h = rn 0 90 B_0_1346 (lwL i) [] h2 := by
  obtain ⟨o, p, D, hI⟩ := hL.1
  obtain ⟨v, c1, c2⟩ := p_about hI (gI h 0 (i + 1)) (μ := 90) (by decide)
  exact lw_b1 hL hi hN ⟨o, p, D, h, h, v, c1, c2, hI⟩
