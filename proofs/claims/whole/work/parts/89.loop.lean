/-! THE LAW'S LOOP -/
theorem lw_sw (x : Int32) (cs : List IR) (ls : LV) (st : List Value) (h : MH) : ∃ t : Int, t ∈ (1346 :: (#[212, 275, 298, 311, 334, 367, 400, 433, 466, 489, 522, 555, 588, 621, 644, 667, 680, 693, 706, 719, 742, 775, 788, 811, 834, 857, 890, 914, 937, 970, 1003, 1036, 1079, 1102, 1145, 1168, 1191, 1234, 1277, 1300, 1323] : Array Int).toList) ∧ rn 0 90 (.tableswitch 1346 0 40 #[212, 275, 298, 311, 334, 367, 400, 433, 466, 489, 522, 555, 588, 621, 644, 667, 680, 693, 706, 719, 742, 775, 788, 811, 834, 857, 890, 914, 937, 970, 1003, 1036, 1079, 1102, 1145, 1168, 1191, 1234, 1277, 1300, 1323] :: cs) ls (.int x :: st) h = rn 0 90 (tgt 0 t) ls st h := by
  rw [e_tsw]
  by_cases c : x.toInt < 0 ∨ 40 < x.toInt
  · rw [if_pos c]
    exact ⟨1346, List.mem_cons_self, rfl⟩
  · rw [if_neg c]
    generalize hq : (#[212, 275, 298, 311, 334, 367, 400, 433, 466, 489, 522, 555, 588, 621, 644, 667, 680, 693, 706, 719, 742, 775, 788, 811, 834, 857, 890, 914, 937, 970, 1003, 1036, 1079, 1102, 1145, 1168, 1191, 1234, 1277, 1300, 1323] : Array Int)[(x.toInt - 0).toNat]? = q
    match q, hq with
    | some t, hq => exact ⟨t, List.mem_cons_of_mem _ (Array.mem_toList_iff.mpr (Array.mem_of_getElem? hq)), rfl⟩
    | none, hq =>
      exfalso
      have := Array.getElem?_eq_none_iff.mp hq
      simp only [List.size_toArray, List.length_cons, List.length_nil] at this
      omega
theorem lw_all {N i : Nat} {h : MH} (HO : ∀ {o p : Nat} {L : LD} {h : MH}, INV o p L h → PR 37 209 [] h) (hL : Lp N h) (hi : i + 6 ≤ N) (hN : N ≤ 3072) (t : Int) (ht : t ∈ (1346 :: (#[212, 275, 298, 311, 334, 367, 400, 433, 466, 489, 522, 555, 588, 621, 644, 667, 680, 693, 706, 719, 742, 775, 788, 811, 834, 857, 890, 914, 937, 970, 1003, 1036, 1079, 1102, 1145, 1168, 1191, 1234, 1277, 1300, 1323] : Array Int).toList)) : ∃ h2, Lp N h2 ∧ rn 0 90 (tgt 0 t) (lwL i) [] h = rn 0 90 B_0_1346 (lwL i) [] h2 := by
  simp only [List.mem_cons, List.not_mem_nil, or_false] at ht
  rcases ht with rfl | rfl | rfl | rfl | rfl | rfl | rfl | rfl | rfl | rfl | rfl | rfl | rfl | rfl | rfl | rfl | rfl | rfl | rfl | rfl | rfl | rfl | rfl | rfl | rfl | rfl | rfl | rfl | rfl | rfl | rfl | rfl | rfl | rfl | rfl | rfl | rfl | rfl | rfl | rfl | rfl | rfl
  · exact ⟨h, hL, by rw [T_0_1346]⟩
  · exact lw_t212 hL hi hN
  · exact lw_t275 hL hi hN
  · exact lw_t298 HO hL hi hN
  · exact lw_t311 hL hi hN
  · exact lw_t334 hL hi hN
  · exact lw_t367 hL hi hN
  · exact lw_t400 hL hi hN
  · exact lw_t433 hL hi hN
  · exact lw_t466 hL hi hN
  · exact lw_t489 hL hi hN
  · exact lw_t522 hL hi hN
  · exact lw_t555 hL hi hN
  · exact lw_t588 hL hi hN
  · exact lw_t621 hL hi hN
  · exact lw_t644 hL hi hN
  · exact lw_t667 hL hi hN
  · exact lw_t680 hL hi hN
  · exact lw_t693 hL hi hN
  · exact lw_t706 hL hi hN
  · exact lw_t719 hL hi hN
  · exact lw_t742 hL hi hN
  · exact lw_t775 hL hi hN
  · exact lw_t788 hL hi hN
  · exact lw_t811 hL hi hN
  · exact lw_t834 hL hi hN
  · exact lw_t857 hL hi hN
  · exact lw_t890 hL hi hN
  · exact lw_t914 hL hi hN
  · exact lw_t937 hL hi hN
  · exact lw_t970 hL hi hN
  · exact lw_t1003 hL hi hN
  · exact lw_t1036 hL hi hN
  · exact lw_t1079 hL hi hN
  · exact lw_t1102 hL hi hN
  · exact lw_t1145 hL hi hN
  · exact lw_t1168 hL hi hN
  · exact lw_t1191 hL hi hN
  · exact lw_t1234 hL hi hN
  · exact lw_t1277 hL hi hN
  · exact lw_t1300 hL hi hN
  · exact lw_t1323 hL hi hN
theorem lw_sub {N i : Nat} (hN : N ≤ 3072) (hi : i ≤ 4000) : (nI N - 6 < nI i) = (N < i + 6) := by
  have h1 : (nI N - 6).toInt = (N : Int) - 6 := by
    rw [Int32.toInt_sub, nI_toInt (by omega)]
    rw [show (6 : Int32).toInt = 6 from rfl]
    rw [Int.bmod_eq_of_le (by omega) (by omega)]
  have h2 : (nI i).toInt = (i : Int) := nI_toInt (by omega)
  refine propext ?_
  rw [Int32.lt_iff_toInt_lt, h1, h2]
  omega
theorem lw_loop {N : Nat} (HO : ∀ {o p : Nat} {L : LD} {h : MH}, INV o p L h → PR 37 209 [] h) (hN : N ≤ 3072) : ∀ m i h, N + 6 ≤ i + m → i ≤ N → Lp N h → ∃ h', rn 0 90 B_0_18 (lwL i) [] h = some (some (.int 1), h') ∧ Lp N h' := by
  have out : ∀ i h, N < i + 6 → i ≤ N → Lp N h → ∃ h', rn 0 90 B_0_18 (lwL i) [] h = some (some (.int 1), h') ∧ Lp N h' := by
    intro i h hi hi2 hL
    refine ⟨h, ?_, hL⟩
    obtain ⟨_, hlen, h0, hl⟩ := hL
    rw [B_0_18, e_iload_n_3, e_aload_n_0, e_alen, hl, e_bipush_6, e_isub, e_ic_gt, if_pos (show nI N - 6 < nI i by rw [lw_sub hN (by omega)]; exact hi), T_0_1352, B_0_1352, e_iconst_1, R_0 _ _ _ _ _ (Or.inr rfl)]
    rw [h0]
    decide
  intro m
  induction m with
  | zero => intro i h hm hi hL; omega
  | succ m ih =>
    intro i h hm hi2 hL
    by_cases hi : N < i + 6
    · exact out i h hi hi2 hL
    · have hi : i + 6 ≤ N := by omega
      have hL0 := hL
      obtain ⟨_, hlen, h0, hl⟩ := hL0
      have e1 : rn 0 90 B_0_18 (lwL i) [] h = rn 0 90 (.tableswitch 1346 0 40 #[212, 275, 298, 311, 334, 367, 400, 433, 466, 489, 522, 555, 588, 621, 644, 667, 680, 693, 706, 719, 742, 775, 788, 811, 834, 857, 890, 914, 937, 970, 1003, 1036, 1079, 1102, 1145, 1168, 1191, 1234, 1277, 1300, 1323] :: []) (lwL i) [.int (gI h 0 i &&& 63)] h := by
        rw [B_0_18, e_iload_n_3, e_aload_n_0, e_alen, hl, e_bipush_6, e_isub, e_ic_gt, if_neg (show ¬ nI N - 6 < nI i by rw [lw_sub hN (by omega)]; omega), e_aload_n_0, e_iload_n_3, e_iaload, tc_nI (by omega), e_bipush_63, e_iand]
        · exact h0
        · rw [hl]
          exact inBd_nI (by omega) (by omega)
        · rw [h0]
          decide
      obtain ⟨t, ht, e2⟩ := lw_sw (gI h 0 i &&& 63) [] (lwL i) [] h
      obtain ⟨h2, hL2, e3⟩ := lw_all HO hL hi hN t ht
      have e4 : nI i + 6 = nI (i + 6) := nI_add i 6
      have e5 : rn 0 90 B_0_1346 (lwL i) [] h2 = rn 0 90 B_0_18 (lwL (i + 6)) [] h2 := by
        rw [B_0_1346, e_iinc_3_6, e_goto, T_0_18, e4]
        rfl
      rw [e1, e2, e3, e5]
      exact ih (i + 6) h2 (by omega) (by omega) hL2
theorem lw_run {N : Nat} {h : MH} (HO : ∀ {o p : Nat} {L : LD} {h : MH}, INV o p L h → PR 37 209 [] h) (hN : N ≤ 3072) (hL : Lp N h) : ∃ h', rn 0 90 B_0_18 (lwL 0) [] h = some (some (.int 1), h') ∧ h'.1.length ≤ 500 ∧ szH h' ≤ 200000 := by
  obtain ⟨h', e, hL'⟩ := lw_loop HO hN (N + 6) 0 h (by omega) (by omega) hL
  refine ⟨h', e, ?_⟩
  obtain ⟨⟨o, p, D, hI⟩, _⟩ := hL'
  obtain ⟨L, hL3, x, y, hx, hy, r1, r2⟩ := hI.2.2.2.2
  have hx1 : x ≤ 1 := by rcases hx with ⟨_, e⟩ | ⟨_, e⟩ <;> omega
  have hy1 : y ≤ 1 := by rcases hy with ⟨_, e⟩ | ⟨e, _⟩ <;> omega
  constructor <;> omega
