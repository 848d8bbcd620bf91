theorem prd_e {L : LD} (hB : SzB L) : prd L (dT L) = dNs L := by
  have h4 := hB.1
  have p0 := strd_p hB 0
  have p1 := strd_p hB 1
  have p2 := strd_p hB 2
  have p3 := strd_p hB 3
  unfold dNs
  rcases (show dT L = 0 ∨ dT L = 1 ∨ dT L = 2 ∨ dT L = 3 ∨ dT L = 4 by omega) with e | e | e | e | e
  · rw [e]
    rfl
  · rw [if_pos (by omega), p0, if_neg (by omega), e]
    show 1 * dSize L 0 = dSize L 0 * 1
    omega
  · rw [if_pos (by omega), p0, if_pos (by omega), p1, if_neg (by omega), e]
    show 1 * dSize L 0 * dSize L 1 = dSize L 0 * (dSize L (0 + 1) * 1)
    rw [Nat.one_mul, Nat.mul_one]
  · rw [if_pos (by omega), p0, if_pos (by omega), p1, if_pos (by omega), p2, if_neg (by omega), e]
    show 1 * dSize L 0 * dSize L 1 * dSize L 2 = dSize L 0 * (dSize L (0 + 1) * (dSize L (1 + 1) * 1))
    rw [Nat.one_mul, Nat.mul_one, Nat.mul_assoc]
  · rw [if_pos (by omega), p0, if_pos (by omega), p1, if_pos (by omega), p2, if_pos (by omega), p3, if_neg (by omega), e]
    show 1 * dSize L 0 * dSize L 1 * dSize L 2 * dSize L 3 = dSize L 0 * (dSize L (0 + 1) * (dSize L (1 + 1) * (dSize L (2 + 1) * 1)))
    rw [Nat.one_mul, Nat.mul_one, Nat.mul_assoc, Nat.mul_assoc]
theorem msk {st c : Nat} (hc : c ≤ 12) (h : st < 2 ^ c) : nI st &&& (((1 : Int32) <<< (nI c &&& 31)) - 1) = nI st := by
  have h12 := pw12 hc
  have hp : 0 < 2 ^ c := Nat.pow_pos (by omega)
  rw [shl_nI hc, sub1_nI (by omega), and_nI _ _ (by omega)]
  have e : (nI st).toBitVec.toNat = st := pk_tn (by omega)
  rw [e, Nat.and_two_pow_sub_one_eq_mod, Nat.mod_eq_of_lt h]
/-- what the reference has read, as the law L says it -/
def MnR (L : LD) (Fs : Nat → List (Int32 × Int32)) (FA : List (Int32 × Int32)) (am : Bool) (st sd n : Nat) (k : MH) : Prop :=
  (gI k 66 40 = nI (dT L) ∧ gI k 66 41 = nI (dR L) ∧ gI k 66 42 = nI (dC L) ∧ dC L ≤ 12) ∧ (∀ t, t < dT L → gI k 77 t = nI (dSize L t)) ∧ (∀ t, t < 3 → gI k 78 t = dHow L t) ∧
  (∀ c, c < dC L → gI k 79 c = nI (dHome L c) ∧ dHome L c < 3 ∧ gI k 80 c = dSay L c ∧ gI k 81 c = dTold L c ∧ gI k 82 c = dNeed L c ∧ gI k 83 c = dBars L c) ∧
  (gI k 66 43 = dLink L ∧ gI k 66 44 = nI st ∧ st < 2 ^ dC L ∧ gI k 66 45 = dForb L ∧ gI k 66 46 = dBear L ∧ gI k 66 47 = dSuck L ∧ gI k 66 48 = nI sd ∧ gI k 66 21 = dUnit L ∧ gI k 66 49 = nI n ∧ n < 16 ∧ am = decide (n % 2 = 1)) ∧
  (∀ c, c < dC L → (Fs c).length ≤ 320 ∧ gI k 71 c = nI (Fs c).length ∧ (∀ j s, (Fs c)[j]? = some s → gI k 69 (320 * c + j) = s.1 ∧ gI k 70 (320 * c + j) = s.2) ∧ WfS (dT L) (Fs c) 0) ∧
  (am = true → FA.length ≤ 320 ∧ gI k 71 12 = nI FA.length ∧ (∀ j s, FA[j]? = some s → gI k 69 (320 * 12 + j) = s.1 ∧ gI k 70 (320 * 12 + j) = s.2) ∧ WfS (dT L) FA 0)
def kO1 (L : LD) (n st : Nat) (k : MH) : MH := sI (sI (sI (sI (sI (sI (sI (sI (sI (sI (sI k 66 50 (nI (dT L))) 66 51 (nI (dR L))) 66 52 (nI (dC L))) 66 53 (dLink L)) 66 54 (nI st)) 66 55 (dForb L)) 66 56 (dBear L)) 66 57 (dSuck L)) 66 59 (if n % 2 = 1 then 1 else 0)) 66 22 (dUnit L)) 66 58 1
theorem o_13 {L : LD} {Fs : Nat → List (Int32 × Int32)} {FA : List (Int32 × Int32)} {am : Bool} {st sd n : Nat} {k : MH} (hS : St k) (hM : MnR L Fs FA am st sd n k) : rn 209 11 B_209_13 [some (.ref 66), none, none] [] k = rn 209 11 B_209_119 [some (.ref 66), some (.int (nI 0)), none] [] (kO1 L n st k) := by
  obtain ⟨⟨a1, a2, a3, a4⟩, -, -, -, ⟨b1, b2, b3, b4, b5, b6, b7, b8, b9, b10, -⟩, -⟩ := hM
  have mk := msk a4 b3
  obtain ⟨q1, -⟩ := bt4 (b := 1) (Or.inl rfl) b10
  have q1 : nI n &&& 1 = 0 ↔ n &&& 1 = 0 := q1
  rw [Nat.and_one_is_mod] at q1
  unfold kO1
  conv => lhs; rw [B_209_13]
  by_cases c : n % 2 = 1
  · rw [if_pos c]
    have q : ¬ nI n &&& 1 = 0 := fun z => by have := q1.mp z; omega
    simp (disch := first | assumption | exact b2i_01 _ | decide | omega | (simp only [kd_sI, ln_sI, hl_sI, gL_sI, gR_sI, kd_sL, ln_sL, hl_sL, gI_sL, gR_sL, kd_sR, ln_sR, hl_sR, gI_sR, gL_sR, kd_cpI, ln_cpI, hl_cpI, gL_cpI, gR_cpI, gI_cpI, gI_sI, gL_sL, gR_sR, St_sI, St_sL, St_cpI, Nat.reduceEqDiff, Nat.reduceAdd, eq_self, false_and, and_false, true_and, and_true, and_self, if_true, if_false, false_or, or_false, true_or, or_true, not_true_eq_false, not_false_eq_true, reduceIte, K_66, F_66_0, F_66_10, F_66_11, F_66_12, F_66_13, F_66_14, F_66_15, F_66_16, F_66_17, F_66_18, F_66_25, F_66_26, F_66_27, F_66_28, F_66_29, F_66_30, F_66_31, F_66_32, F_66_33, F_66_34, F_66_35, F_66_36, F_66_37, F_66_38, F_66_39, F_66_60, F_66_61, F_66_62, F_66_63, F_66_66, F_66_68, F_66_69, F_66_71, F_66_72, F_66_73, F_66_74, F_66_77, F_66_78, F_66_79, F_66_80, F_66_81, F_66_84, F_66_85, F_66_86, F_66_87, hS, a1, a2, a3, b1, b2, mk, b4, b5, b6, b8, b9, q] <;> first | done | decide | omega | fail) | fail) only [B_209_0, e_aload_n_0, e_call_1, psh_s, psh_n, Option.bind_some, G_1202, e_if_le, e_iconst_m1, R_209, T_209_13, G_1240, P_1250, G_1241, P_1251, G_1242, P_1252, G_1243, P_1253, G_1244, e_iconst_1, e_ishl, e_isub, e_iand, P_1254, G_1245, P_1255, G_1246, P_1256, G_1247, P_1257, G_1249, e_if_eq, e_goto, T_209_100, B_209_100, e_iconst_0, e_gotow, T_209_101, B_209_101, P_1259, G_1221, P_1222, P_1258, e_istore_n_1, clr_i, clr_l, clr_a, clr_n, T_209_119, e_iload_n_1, e_iconst_4, e_ic_ge, G_1232, G_1225, e_iaload, e_iastore, e_iinc_1_1, T_209_142, B_209_142, T_209_144, B_209_144, G_1250, e_dup_i, e_dup_a, G_1258, e_imul, T_209_173, B_209_173, T_209_175, B_209_175, e_bipush_13, G_1216, G_1213, e_sipush_320, e_istore_n_2, T_209_199, B_209_199, e_iload_n_2, e_iadd, G_1214, G_1211, G_1215, G_1212, e_iinc_2_1, T_209_245, B_209_245, T_209_251, B_209_251, T_209_253, B_209_253, e_iconst_3, G_1233, G_1226, G_1239, T_209_283, B_209_283, T_209_285, B_209_285, e_bipush_12, G_1234, G_1227, G_1235, G_1228, G_1236, G_1229, G_1237, G_1230, G_1238, G_1231, G_1252, e_dup2, e_ior, T_209_376, B_209_376, T_209_382, B_209_382, G_1262, G_1248, e_iconst_2, G_1254, T_209_419, B_209_419, e_ishr, e_ic_ne, T_209_448, B_209_448, T_209_449, B_209_449, e_bipush_15, T_209_466, B_209_466, P_1264, P_1265, P_1270, P_1282, P_1267, T_209_493, B_209_493, G_1286, e_bastore_b, e_bastore_z, T_209_511, B_209_511, kd_sI, ln_sI, hl_sI, gL_sI, gR_sI, kd_sL, ln_sL, hl_sL, gI_sL, gR_sL, kd_sR, ln_sR, hl_sR, gI_sR, gL_sR, kd_cpI, ln_cpI, hl_cpI, gL_cpI, gR_cpI, gI_cpI, gI_sI, gL_sL, gR_sR, St_sI, St_sL, St_cpI, Nat.reduceEqDiff, Nat.reduceAdd, eq_self, false_and, and_false, true_and, and_true, and_self, if_true, if_false, false_or, or_false, true_or, or_true, not_true_eq_false, not_false_eq_true, reduceIte, K_66, F_66_0, F_66_10, F_66_11, F_66_12, F_66_13, F_66_14, F_66_15, F_66_16, F_66_17, F_66_18, F_66_25, F_66_26, F_66_27, F_66_28, F_66_29, F_66_30, F_66_31, F_66_32, F_66_33, F_66_34, F_66_35, F_66_36, F_66_37, F_66_38, F_66_39, F_66_60, F_66_61, F_66_62, F_66_63, F_66_66, F_66_68, F_66_69, F_66_71, F_66_72, F_66_73, F_66_74, F_66_77, F_66_78, F_66_79, F_66_80, F_66_81, F_66_84, F_66_85, F_66_86, F_66_87, a1, a2, a3, b1, b2, mk, b4, b5, b6, b8, b9, q]
    rfl
  · rw [if_neg c]
    have q : nI n &&& 1 = 0 := q1.mpr (by omega)
    simp (disch := first | assumption | exact b2i_01 _ | decide | omega | (simp only [kd_sI, ln_sI, hl_sI, gL_sI, gR_sI, kd_sL, ln_sL, hl_sL, gI_sL, gR_sL, kd_sR, ln_sR, hl_sR, gI_sR, gL_sR, kd_cpI, ln_cpI, hl_cpI, gL_cpI, gR_cpI, gI_cpI, gI_sI, gL_sL, gR_sR, St_sI, St_sL, St_cpI, Nat.reduceEqDiff, Nat.reduceAdd, eq_self, false_and, and_false, true_and, and_true, and_self, if_true, if_false, false_or, or_false, true_or, or_true, not_true_eq_false, not_false_eq_true, reduceIte, K_66, F_66_0, F_66_10, F_66_11, F_66_12, F_66_13, F_66_14, F_66_15, F_66_16, F_66_17, F_66_18, F_66_25, F_66_26, F_66_27, F_66_28, F_66_29, F_66_30, F_66_31, F_66_32, F_66_33, F_66_34, F_66_35, F_66_36, F_66_37, F_66_38, F_66_39, F_66_60, F_66_61, F_66_62, F_66_63, F_66_66, F_66_68, F_66_69, F_66_71, F_66_72, F_66_73, F_66_74, F_66_77, F_66_78, F_66_79, F_66_80, F_66_81, F_66_84, F_66_85, F_66_86, F_66_87, hS, a1, a2, a3, b1, b2, mk, b4, b5, b6, b8, b9, q] <;> first | done | decide | omega | fail) | fail) only [B_209_0, e_aload_n_0, e_call_1, psh_s, psh_n, Option.bind_some, G_1202, e_if_le, e_iconst_m1, R_209, T_209_13, G_1240, P_1250, G_1241, P_1251, G_1242, P_1252, G_1243, P_1253, G_1244, e_iconst_1, e_ishl, e_isub, e_iand, P_1254, G_1245, P_1255, G_1246, P_1256, G_1247, P_1257, G_1249, e_if_eq, e_goto, T_209_100, B_209_100, e_iconst_0, e_gotow, T_209_101, B_209_101, P_1259, G_1221, P_1222, P_1258, e_istore_n_1, clr_i, clr_l, clr_a, clr_n, T_209_119, e_iload_n_1, e_iconst_4, e_ic_ge, G_1232, G_1225, e_iaload, e_iastore, e_iinc_1_1, T_209_142, B_209_142, T_209_144, B_209_144, G_1250, e_dup_i, e_dup_a, G_1258, e_imul, T_209_173, B_209_173, T_209_175, B_209_175, e_bipush_13, G_1216, G_1213, e_sipush_320, e_istore_n_2, T_209_199, B_209_199, e_iload_n_2, e_iadd, G_1214, G_1211, G_1215, G_1212, e_iinc_2_1, T_209_245, B_209_245, T_209_251, B_209_251, T_209_253, B_209_253, e_iconst_3, G_1233, G_1226, G_1239, T_209_283, B_209_283, T_209_285, B_209_285, e_bipush_12, G_1234, G_1227, G_1235, G_1228, G_1236, G_1229, G_1237, G_1230, G_1238, G_1231, G_1252, e_dup2, e_ior, T_209_376, B_209_376, T_209_382, B_209_382, G_1262, G_1248, e_iconst_2, G_1254, T_209_419, B_209_419, e_ishr, e_ic_ne, T_209_448, B_209_448, T_209_449, B_209_449, e_bipush_15, T_209_466, B_209_466, P_1264, P_1265, P_1270, P_1282, P_1267, T_209_493, B_209_493, G_1286, e_bastore_b, e_bastore_z, T_209_511, B_209_511, kd_sI, ln_sI, hl_sI, gL_sI, gR_sI, kd_sL, ln_sL, hl_sL, gI_sL, gR_sL, kd_sR, ln_sR, hl_sR, gI_sR, gL_sR, kd_cpI, ln_cpI, hl_cpI, gL_cpI, gR_cpI, gI_cpI, gI_sI, gL_sL, gR_sR, St_sI, St_sL, St_cpI, Nat.reduceEqDiff, Nat.reduceAdd, eq_self, false_and, and_false, true_and, and_true, and_self, if_true, if_false, false_or, or_false, true_or, or_true, not_true_eq_false, not_false_eq_true, reduceIte, K_66, F_66_0, F_66_10, F_66_11, F_66_12, F_66_13, F_66_14, F_66_15, F_66_16, F_66_17, F_66_18, F_66_25, F_66_26, F_66_27, F_66_28, F_66_29, F_66_30, F_66_31, F_66_32, F_66_33, F_66_34, F_66_35, F_66_36, F_66_37, F_66_38, F_66_39, F_66_60, F_66_61, F_66_62, F_66_63, F_66_66, F_66_68, F_66_69, F_66_71, F_66_72, F_66_73, F_66_74, F_66_77, F_66_78, F_66_79, F_66_80, F_66_81, F_66_84, F_66_85, F_66_86, F_66_87, a1, a2, a3, b1, b2, mk, b4, b5, b6, b8, b9, q]
    rfl
