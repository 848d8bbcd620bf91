/-! entries, blocks, returns of each method, by program -/
theorem cal_of {k : Nat} {a : List Value} {μ : Nat} {h : MH} (ho : okC k a μ h) : cal k a μ h = rn k (mu k a) (blk k 0) (ent k a) [] h := by
  unfold cal
  exact if_pos ho
theorem rz_of {k μ : Nat} {cs : List IR} {ls : LV} {x : Int32} {h : MH} (hk : isZ k = true) (hx : x = 0 ∨ x = 1) : rn k μ (.ireturn :: cs) ls [.int x] h = some (some (.int x), h) := by
  rw [rn_fix]
  simp only [stp, rti]
  rw [if_pos hk, if_pos hx]
  rfl
theorem T_0_18 : tgt 0 18 = B_0_18 := rfl
theorem T_0_212 : tgt 0 212 = B_0_212 := rfl
theorem T_0_275 : tgt 0 275 = B_0_275 := rfl
theorem T_0_298 : tgt 0 298 = B_0_298 := rfl
theorem T_0_311 : tgt 0 311 = B_0_311 := rfl
theorem T_0_334 : tgt 0 334 = B_0_334 := rfl
theorem T_0_367 : tgt 0 367 = B_0_367 := rfl
theorem T_0_400 : tgt 0 400 = B_0_400 := rfl
theorem T_0_433 : tgt 0 433 = B_0_433 := rfl
theorem T_0_466 : tgt 0 466 = B_0_466 := rfl
theorem T_0_489 : tgt 0 489 = B_0_489 := rfl
theorem T_0_522 : tgt 0 522 = B_0_522 := rfl
theorem T_0_555 : tgt 0 555 = B_0_555 := rfl
theorem T_0_588 : tgt 0 588 = B_0_588 := rfl
theorem T_0_621 : tgt 0 621 = B_0_621 := rfl
theorem T_0_644 : tgt 0 644 = B_0_644 := rfl
theorem T_0_667 : tgt 0 667 = B_0_667 := rfl
theorem T_0_680 : tgt 0 680 = B_0_680 := rfl
theorem T_0_693 : tgt 0 693 = B_0_693 := rfl
theorem T_0_706 : tgt 0 706 = B_0_706 := rfl
theorem T_0_719 : tgt 0 719 = B_0_719 := rfl
theorem T_0_742 : tgt 0 742 = B_0_742 := rfl
theorem T_0_775 : tgt 0 775 = B_0_775 := rfl
theorem T_0_788 : tgt 0 788 = B_0_788 := rfl
theorem T_0_811 : tgt 0 811 = B_0_811 := rfl
theorem T_0_834 : tgt 0 834 = B_0_834 := rfl
theorem T_0_857 : tgt 0 857 = B_0_857 := rfl
theorem T_0_890 : tgt 0 890 = B_0_890 := rfl
theorem T_0_914 : tgt 0 914 = B_0_914 := rfl
theorem T_0_937 : tgt 0 937 = B_0_937 := rfl
theorem T_0_970 : tgt 0 970 = B_0_970 := rfl
theorem T_0_1003 : tgt 0 1003 = B_0_1003 := rfl
theorem T_0_1036 : tgt 0 1036 = B_0_1036 := rfl
theorem T_0_1079 : tgt 0 1079 = B_0_1079 := rfl
theorem T_0_1102 : tgt 0 1102 = B_0_1102 := rfl
theorem T_0_1145 : tgt 0 1145 = B_0_1145 := rfl
theorem T_0_1168 : tgt 0 1168 = B_0_1168 := rfl
theorem T_0_1191 : tgt 0 1191 = B_0_1191 := rfl
theorem T_0_1234 : tgt 0 1234 = B_0_1234 := rfl
theorem T_0_1277 : tgt 0 1277 = B_0_1277 := rfl
theorem T_0_1300 : tgt 0 1300 = B_0_1300 := rfl
theorem T_0_1323 : tgt 0 1323 = B_0_1323 := rfl
theorem T_0_1346 : tgt 0 1346 = B_0_1346 := rfl
theorem T_0_1352 : tgt 0 1352 = B_0_1352 := rfl
theorem R_0 (μ : Nat) (cs : List IR) (ls : LV) (x : Int32) (h : MH) (hx : x = 0 ∨ x = 1) : rn 0 μ (.ireturn :: cs) ls [.int x] h = some (some (.int x), h) := rz_of (by decide +kernel) hx
theorem C_1 (a : Nat) (μ : Nat) (h : MH) (h1 : kd h a = 11) (h2 : 2 ≤ a) (hμ : 9 < μ) : cal 1 [.ref a] μ h = rn 1 (9) B_1_0 [some (.ref a)] [] h := cal_of ⟨hμ, show decide (kd h a = 11 ∧ 2 ≤ a ∧ 11 < 13) = true from decide_eq_true ⟨h1, h2, by decide⟩, rfl, by decide, Nat.le_of_ble_eq_true rfl⟩
theorem R_1 (μ : Nat) (cs : List IR) (ls : LV) (h : MH) : rn 1 μ (.return_ :: cs) ls [] h = some (none, h) := by
  rw [rn_fix]; rfl
theorem C_2 (a : Nat) (μ : Nat) (h : MH) (h1 : kd h a = 5) (h2 : 2 ≤ a) (hμ : 5 < μ) : cal 2 [.ref a] μ h = rn 2 (5) B_2_0 [some (.ref a)] [] h := cal_of ⟨hμ, show decide (kd h a = 5 ∧ 2 ≤ a ∧ 5 < 13) = true from decide_eq_true ⟨h1, h2, by decide⟩, rfl, by decide, Nat.le_of_ble_eq_true rfl⟩
theorem R_2 (μ : Nat) (cs : List IR) (ls : LV) (h : MH) : rn 2 μ (.return_ :: cs) ls [] h = some (none, h) := by
  rw [rn_fix]; rfl
theorem C_3 (a : Nat) (x0 : Int32) (μ : Nat) (h : MH) (h1 : kd h a = 4) (h2 : 2 ≤ a) (hμ : 4 < μ) : cal 3 [.ref a, .int x0] μ h = rn 3 (4) B_3_0 [some (.ref a), some (.int x0)] [] h := cal_of ⟨hμ, show decide (kd h a = 4 ∧ 2 ≤ a ∧ 4 < 13) = true from decide_eq_true ⟨h1, h2, by decide⟩, rfl, by decide, Nat.le_of_ble_eq_true rfl⟩
theorem R_3 (μ : Nat) (cs : List IR) (ls : LV) (h : MH) : rn 3 μ (.return_ :: cs) ls [] h = some (none, h) := by
  rw [rn_fix]; rfl
theorem C_4 (x0 : Int32) (x1 : Int32) (μ : Nat) (h : MH)  (hμ : 3 < μ) : cal 4 [.int x0, .int x1] μ h = rn 4 (3) B_4_0 [some (.int x0), some (.int x1)] [] h := cal_of ⟨hμ, rfl, rfl, by decide, Nat.le_of_ble_eq_true rfl⟩
theorem T_4_9 : tgt 4 9 = B_4_9 := rfl
theorem T_4_10 : tgt 4 10 = B_4_10 := rfl
theorem R_4 (μ : Nat) (cs : List IR) (ls : LV) (x : Int32) (h : MH) : rn 4 μ (.ireturn :: cs) ls [.int x] h = some (some (.int x), h) := by
  rw [rn_fix]; rfl
theorem C_5 (a : Nat) (μ : Nat) (h : MH) (h1 : kd h a = 1) (h2 : 2 ≤ a) (hμ : 3 < μ) : cal 5 [.ref a] μ h = rn 5 (3) B_5_0 [some (.ref a)] [] h := cal_of ⟨hμ, show decide (kd h a = 1 ∧ 2 ≤ a ∧ 1 < 13) = true from decide_eq_true ⟨h1, h2, by decide⟩, rfl, by decide, Nat.le_of_ble_eq_true rfl⟩
theorem R_5 (μ : Nat) (cs : List IR) (ls : LV) (h : MH) : rn 5 μ (.return_ :: cs) ls [] h = some (none, h) := by
  rw [rn_fix]; rfl
theorem C_6 (a : Nat) (μ : Nat) (h : MH) (h1 : kd h a = 9) (h2 : 2 ≤ a) (hμ : 3 < μ) : cal 6 [.ref a] μ h = rn 6 (3) B_6_0 [some (.ref a)] [] h := cal_of ⟨hμ, show decide (kd h a = 9 ∧ 2 ≤ a ∧ 9 < 13) = true from decide_eq_true ⟨h1, h2, by decide⟩, rfl, by decide, Nat.le_of_ble_eq_true rfl⟩
theorem R_6 (μ : Nat) (cs : List IR) (ls : LV) (h : MH) : rn 6 μ (.return_ :: cs) ls [] h = some (none, h) := by
  rw [rn_fix]; rfl
theorem C_7 (a : Nat) (x0 : Nat) (x1 : Nat) (μ : Nat) (h : MH) (h1 : kd h a = 6) (h2 : 2 ≤ a) (hμ : 3 < μ) : cal 7 [.ref a, .ref x0, .ref x1] μ h = rn 7 (3) B_7_0 [some (.ref a), some (.ref x0), some (.ref x1)] [] h := cal_of ⟨hμ, show decide (kd h a = 6 ∧ 2 ≤ a ∧ 6 < 13) = true from decide_eq_true ⟨h1, h2, by decide⟩, rfl, by decide, Nat.le_of_ble_eq_true rfl⟩
theorem R_7 (μ : Nat) (cs : List IR) (ls : LV) (h : MH) : rn 7 μ (.return_ :: cs) ls [] h = some (none, h) := by
  rw [rn_fix]; rfl
theorem C_8 (a : Nat) (x0 : Nat) (μ : Nat) (h : MH) (h1 : kd h a = 0) (h2 : 2 ≤ a) (hμ : 3 < μ) : cal 8 [.ref a, .ref x0] μ h = rn 8 (3) B_8_0 [some (.ref a), some (.ref x0)] [] h := cal_of ⟨hμ, show decide (kd h a = 0 ∧ 2 ≤ a ∧ 0 < 13) = true from decide_eq_true ⟨h1, h2, by decide⟩, rfl, by decide, Nat.le_of_ble_eq_true rfl⟩
theorem R_8 (μ : Nat) (cs : List IR) (ls : LV) (h : MH) : rn 8 μ (.return_ :: cs) ls [] h = some (none, h) := by
  rw [rn_fix]; rfl
theorem C_9 (a : Nat) (x0 : Nat) (μ : Nat) (h : MH) (h1 : kd h a = 8) (h2 : 2 ≤ a) (hμ : 3 < μ) : cal 9 [.ref a, .ref x0] μ h = rn 9 (3) B_9_0 [some (.ref a), some (.ref x0)] [] h := cal_of ⟨hμ, show decide (kd h a = 8 ∧ 2 ≤ a ∧ 8 < 13) = true from decide_eq_true ⟨h1, h2, by decide⟩, rfl, by decide, Nat.le_of_ble_eq_true rfl⟩
theorem R_9 (μ : Nat) (cs : List IR) (ls : LV) (h : MH) : rn 9 μ (.return_ :: cs) ls [] h = some (none, h) := by
  rw [rn_fix]; rfl
theorem C_10 (a : Nat) (μ : Nat) (h : MH) (h1 : kd h a = 10) (h2 : 2 ≤ a) (hμ : 3 < μ) : cal 10 [.ref a] μ h = rn 10 (3) B_10_0 [some (.ref a)] [] h := cal_of ⟨hμ, show decide (kd h a = 10 ∧ 2 ≤ a ∧ 10 < 13) = true from decide_eq_true ⟨h1, h2, by decide⟩, rfl, by decide, Nat.le_of_ble_eq_true rfl⟩
theorem R_10 (μ : Nat) (cs : List IR) (ls : LV) (h : MH) : rn 10 μ (.return_ :: cs) ls [] h = some (none, h) := by
  rw [rn_fix]; rfl
theorem C_11 (a : Nat) (μ : Nat) (h : MH) (h1 : kd h a = 2) (h2 : 2 ≤ a) (hμ : 3 < μ) : cal 11 [.ref a] μ h = rn 11 (3) B_11_0 [some (.ref a)] [] h := cal_of ⟨hμ, show decide (kd h a = 2 ∧ 2 ≤ a ∧ 2 < 13) = true from decide_eq_true ⟨h1, h2, by decide⟩, rfl, by decide, Nat.le_of_ble_eq_true rfl⟩
theorem R_11 (μ : Nat) (cs : List IR) (ls : LV) (h : MH) : rn 11 μ (.return_ :: cs) ls [] h = some (none, h) := by
  rw [rn_fix]; rfl
theorem C_12 (a : Nat) (μ : Nat) (h : MH) (h1 : kd h a = 3) (h2 : 2 ≤ a) (hμ : 3 < μ) : cal 12 [.ref a] μ h = rn 12 (3) B_12_0 [some (.ref a)] [] h := cal_of ⟨hμ, show decide (kd h a = 3 ∧ 2 ≤ a ∧ 3 < 13) = true from decide_eq_true ⟨h1, h2, by decide⟩, rfl, by decide, Nat.le_of_ble_eq_true rfl⟩
theorem R_12 (μ : Nat) (cs : List IR) (ls : LV) (h : MH) : rn 12 μ (.return_ :: cs) ls [] h = some (none, h) := by
  rw [rn_fix]; rfl
theorem C_13 (a : Nat) (μ : Nat) (h : MH) (h1 : kd h a = 11) (h2 : 2 ≤ a) (hμ : 8 < μ) : cal 13 [.ref a] μ h = rn 13 (8) B_13_0 [some (.ref a)] [] h := cal_of ⟨hμ, show decide (kd h a = 11 ∧ 2 ≤ a ∧ 11 < 13) = true from decide_eq_true ⟨h1, h2, by decide⟩, rfl, by decide, Nat.le_of_ble_eq_true rfl⟩
theorem R_13 (μ : Nat) (cs : List IR) (ls : LV) (h : MH) : rn 13 μ (.return_ :: cs) ls [] h = some (none, h) := by
  rw [rn_fix]; rfl
theorem C_14 (a : Nat) (x0 : Nat) (μ : Nat) (h : MH) (h1 : kd h a = 0) (h2 : 2 ≤ a) (hμ : 7 < μ) : cal 14 [.ref a, .ref x0] μ h = rn 14 (7) B_14_0 [some (.ref a), some (.ref x0), none] [] h := cal_of ⟨hμ, show decide (kd h a = 0 ∧ 2 ≤ a ∧ 0 < 13) = true from decide_eq_true ⟨h1, h2, by decide⟩, rfl, by decide, Nat.le_of_ble_eq_true rfl⟩
theorem T_14_11 : tgt 14 11 = B_14_11 := rfl
theorem T_14_70 : tgt 14 70 = B_14_70 := rfl
theorem T_14_72 : tgt 14 72 = B_14_72 := rfl
theorem T_14_95 : tgt 14 95 = B_14_95 := rfl
theorem R_14 (μ : Nat) (cs : List IR) (ls : LV) (h : MH) : rn 14 μ (.return_ :: cs) ls [] h = some (none, h) := by
  rw [rn_fix]; rfl
theorem C_15 (a : Nat) (μ : Nat) (h : MH) (h1 : kd h a = 0) (h2 : 2 ≤ a) (hμ : 4 < μ) : cal 15 [.ref a] μ h = rn 15 (4) B_15_0 [some (.ref a), none] [] h := cal_of ⟨hμ, show decide (kd h a = 0 ∧ 2 ≤ a ∧ 0 < 13) = true from decide_eq_true ⟨h1, h2, by decide⟩, rfl, by decide, Nat.le_of_ble_eq_true rfl⟩
theorem T_15_7 : tgt 15 7 = B_15_7 := rfl
theorem T_15_53 : tgt 15 53 = B_15_53 := rfl
theorem T_15_59 : tgt 15 59 = B_15_59 := rfl
theorem R_15 (μ : Nat) (cs : List IR) (ls : LV) (h : MH) : rn 15 μ (.return_ :: cs) ls [] h = some (none, h) := by
  rw [rn_fix]; rfl
theorem C_16 (a : Nat) (x0 : Int32) (μ : Nat) (h : MH) (h1 : kd h a = 4) (h2 : 2 ≤ a) (hμ : 3 < μ) : cal 16 [.ref a, .int x0] μ h = rn 16 (3) B_16_0 [some (.ref a), some (.int x0)] [] h := cal_of ⟨hμ, show decide (kd h a = 4 ∧ 2 ≤ a ∧ 4 < 13) = true from decide_eq_true ⟨h1, h2, by decide⟩, rfl, by decide, Nat.le_of_ble_eq_true rfl⟩
theorem T_16_16 : tgt 16 16 = B_16_16 := rfl
theorem T_16_17 : tgt 16 17 = B_16_17 := rfl
theorem R_16 (μ : Nat) (cs : List IR) (ls : LV) (x : Int32) (h : MH) (hx : x = 0 ∨ x = 1) : rn 16 μ (.ireturn :: cs) ls [.int x] h = some (some (.int x), h) := rz_of (by decide +kernel) hx
theorem C_17 (a : Nat) (x0 : Int32) (μ : Nat) (h : MH) (h1 : kd h a = 0) (h2 : 2 ≤ a) (hμ : 5 < μ) : cal 17 [.ref a, .int x0] μ h = rn 17 (5) B_17_0 [some (.ref a), some (.int x0), none] [] h := cal_of ⟨hμ, show decide (kd h a = 0 ∧ 2 ≤ a ∧ 0 < 13) = true from decide_eq_true ⟨h1, h2, by decide⟩, rfl, by decide, Nat.le_of_ble_eq_true rfl⟩
theorem T_17_2 : tgt 17 2 = B_17_2 := rfl
theorem T_17_25 : tgt 17 25 = B_17_25 := rfl
theorem R_17 (μ : Nat) (cs : List IR) (ls : LV) (h : MH) : rn 17 μ (.return_ :: cs) ls [] h = some (none, h) := by
  rw [rn_fix]; rfl
theorem C_18 (a : Nat) (x0 : Int32) (x1 : Int32) (μ : Nat) (h : MH) (h1 : kd h a = 0) (h2 : 2 ≤ a) (hμ : 4 < μ) : cal 18 [.ref a, .int x0, .int x1] μ h = rn 18 (4) B_18_0 [some (.ref a), some (.int x0), some (.int x1)] [] h := cal_of ⟨hμ, show decide (kd h a = 0 ∧ 2 ≤ a ∧ 0 < 13) = true from decide_eq_true ⟨h1, h2, by decide⟩, rfl, by decide, Nat.le_of_ble_eq_true rfl⟩
theorem T_18_35 : tgt 18 35 = B_18_35 := rfl
theorem T_18_37 : tgt 18 37 = B_18_37 := rfl
theorem R_18 (μ : Nat) (cs : List IR) (ls : LV) (x : Int32) (h : MH) : rn 18 μ (.ireturn :: cs) ls [.int x] h = some (some (.int x), h) := by
  rw [rn_fix]; rfl
theorem C_19 (a : Nat) (μ : Nat) (h : MH) (h1 : kd h a = 0) (h2 : 2 ≤ a) (hμ : 6 < μ) : cal 19 [.ref a] μ h = rn 19 (6) B_19_0 [some (.ref a), none, none] [] h := cal_of ⟨hμ, show decide (kd h a = 0 ∧ 2 ≤ a ∧ 0 < 13) = true from decide_eq_true ⟨h1, h2, by decide⟩, rfl, by decide, Nat.le_of_ble_eq_true rfl⟩
theorem T_19_4 : tgt 19 4 = B_19_4 := rfl
theorem T_19_42 : tgt 19 42 = B_19_42 := rfl
theorem T_19_48 : tgt 19 48 = B_19_48 := rfl
theorem R_19 (μ : Nat) (cs : List IR) (ls : LV) (x : Int32) (h : MH) : rn 19 μ (.ireturn :: cs) ls [.int x] h = some (some (.int x), h) := by
  rw [rn_fix]; rfl
theorem C_20 (a : Nat) (x0 : Int32) (x1 : Nat) (μ : Nat) (h : MH) (h1 : kd h a = 1) (h2 : 2 ≤ a) (hμ : 5 < μ) : cal 20 [.ref a, .int x0, .ref x1] μ h = rn 20 (5) B_20_0 [some (.ref a), some (.int x0), some (.ref x1), none, none, none] [] h := cal_of ⟨hμ, show decide (kd h a = 1 ∧ 2 ≤ a ∧ 1 < 13) = true from decide_eq_true ⟨h1, h2, by decide⟩, rfl, by decide, Nat.le_of_ble_eq_true rfl⟩
theorem T_20_10 : tgt 20 10 = B_20_10 := rfl
theorem T_20_12 : tgt 20 12 = B_20_12 := rfl
theorem T_20_22 : tgt 20 22 = B_20_22 := rfl
theorem T_20_78 : tgt 20 78 = B_20_78 := rfl
theorem T_20_106 : tgt 20 106 = B_20_106 := rfl
theorem T_20_116 : tgt 20 116 = B_20_116 := rfl
theorem T_20_120 : tgt 20 120 = B_20_120 := rfl
theorem T_20_126 : tgt 20 126 = B_20_126 := rfl
theorem T_20_139 : tgt 20 139 = B_20_139 := rfl
theorem T_20_140 : tgt 20 140 = B_20_140 := rfl
theorem R_20 (μ : Nat) (cs : List IR) (ls : LV) (x : Int32) (h : MH) : rn 20 μ (.ireturn :: cs) ls [.int x] h = some (some (.int x), h) := by
  rw [rn_fix]; rfl
theorem C_21 (a : Nat) (x0 : Int32) (x1 : Int32) (μ : Nat) (h : MH) (h1 : kd h a = 1) (h2 : 2 ≤ a) (hμ : 4 < μ) : cal 21 [.ref a, .int x0, .int x1] μ h = rn 21 (4) B_21_0 [some (.ref a), some (.int x0), some (.int x1), none] [] h := cal_of ⟨hμ, show decide (kd h a = 1 ∧ 2 ≤ a ∧ 1 < 13) = true from decide_eq_true ⟨h1, h2, by decide⟩, rfl, by decide, Nat.le_of_ble_eq_true rfl⟩
theorem T_21_14 : tgt 21 14 = B_21_14 := rfl
theorem T_21_16 : tgt 21 16 = B_21_16 := rfl
theorem T_21_40 : tgt 21 40 = B_21_40 := rfl
theorem T_21_41 : tgt 21 41 = B_21_41 := rfl
theorem T_21_44 : tgt 21 44 = B_21_44 := rfl
theorem T_21_51 : tgt 21 51 = B_21_51 := rfl
theorem R_21 (μ : Nat) (cs : List IR) (ls : LV) (x : Int32) (h : MH) : rn 21 μ (.ireturn :: cs) ls [.int x] h = some (some (.int x), h) := by
  rw [rn_fix]; rfl
theorem C_22 (x0 : Int32) (x1 : Int32) (x2 : Int32) (μ : Nat) (h : MH)  (hμ : 3 < μ) : cal 22 [.int x0, .int x1, .int x2] μ h = rn 22 (3) B_22_0 [some (.int x0), some (.int x1), some (.int x2)] [] h := cal_of ⟨hμ, rfl, rfl, by decide, Nat.le_of_ble_eq_true rfl⟩
theorem T_22_120 : tgt 22 120 = B_22_120 := rfl
theorem T_22_124 : tgt 22 124 = B_22_124 := rfl
theorem T_22_128 : tgt 22 128 = B_22_128 := rfl
theorem T_22_132 : tgt 22 132 = B_22_132 := rfl
theorem T_22_140 : tgt 22 140 = B_22_140 := rfl
theorem T_22_143 : tgt 22 143 = B_22_143 := rfl
theorem T_22_144 : tgt 22 144 = B_22_144 := rfl
theorem T_22_152 : tgt 22 152 = B_22_152 := rfl
theorem T_22_155 : tgt 22 155 = B_22_155 := rfl
theorem T_22_156 : tgt 22 156 = B_22_156 := rfl
theorem T_22_165 : tgt 22 165 = B_22_165 := rfl
theorem T_22_166 : tgt 22 166 = B_22_166 := rfl
theorem T_22_167 : tgt 22 167 = B_22_167 := rfl
theorem T_22_176 : tgt 22 176 = B_22_176 := rfl
theorem T_22_177 : tgt 22 177 = B_22_177 := rfl
theorem T_22_178 : tgt 22 178 = B_22_178 := rfl
theorem T_22_187 : tgt 22 187 = B_22_187 := rfl
theorem T_22_188 : tgt 22 188 = B_22_188 := rfl
theorem T_22_189 : tgt 22 189 = B_22_189 := rfl
theorem T_22_201 : tgt 22 201 = B_22_201 := rfl
theorem T_22_202 : tgt 22 202 = B_22_202 := rfl
theorem T_22_203 : tgt 22 203 = B_22_203 := rfl
theorem T_22_211 : tgt 22 211 = B_22_211 := rfl
theorem T_22_215 : tgt 22 215 = B_22_215 := rfl
theorem T_22_216 : tgt 22 216 = B_22_216 := rfl
theorem R_22 (μ : Nat) (cs : List IR) (ls : LV) (x : Int32) (h : MH) : rn 22 μ (.ireturn :: cs) ls [.int x] h = some (some (.int x), h) := by
  rw [rn_fix]; rfl
theorem C_23 (x0 : Nat) (x1 : Int32) (μ : Nat) (h : MH)  (hμ : 3 < μ) : cal 23 [.ref x0, .int x1] μ h = rn 23 (3) B_23_0 [some (.ref x0), some (.int x1)] [] h := cal_of ⟨hμ, rfl, rfl, by decide, Nat.le_of_ble_eq_true rfl⟩
theorem T_23_16 : tgt 23 16 = B_23_16 := rfl
theorem T_23_17 : tgt 23 17 = B_23_17 := rfl
theorem R_23 (μ : Nat) (cs : List IR) (ls : LV) (x : Int32) (h : MH) : rn 23 μ (.ireturn :: cs) ls [.int x] h = some (some (.int x), h) := by
  rw [rn_fix]; rfl
theorem C_24 (a : Nat) (x0 : Int32) (μ : Nat) (h : MH) (h1 : kd h a = 0) (h2 : 2 ≤ a) (hμ : 5 < μ) : cal 24 [.ref a, .int x0] μ h = rn 24 (5) B_24_0 [some (.ref a), some (.int x0), none, none, none] [] h := cal_of ⟨hμ, show decide (kd h a = 0 ∧ 2 ≤ a ∧ 0 < 13) = true from decide_eq_true ⟨h1, h2, by decide⟩, rfl, by decide, Nat.le_of_ble_eq_true rfl⟩
theorem T_24_4 : tgt 24 4 = B_24_4 := rfl
theorem T_24_51 : tgt 24 51 = B_24_51 := rfl
theorem T_24_55 : tgt 24 55 = B_24_55 := rfl
theorem T_24_56 : tgt 24 56 = B_24_56 := rfl
theorem T_24_69 : tgt 24 69 = B_24_69 := rfl
theorem T_24_75 : tgt 24 75 = B_24_75 := rfl
theorem R_24 (μ : Nat) (cs : List IR) (ls : LV) (x : Int32) (h : MH) : rn 24 μ (.ireturn :: cs) ls [.int x] h = some (some (.int x), h) := by
  rw [rn_fix]; rfl
theorem C_25 (a : Nat) (x0 : Int32) (x1 : Int32) (μ : Nat) (h : MH) (h1 : kd h a = 5) (h2 : 2 ≤ a) (hμ : 4 < μ) : cal 25 [.ref a, .int x0, .int x1] μ h = rn 25 (4) B_25_0 [some (.ref a), some (.int x0), some (.int x1), none] [] h := cal_of ⟨hμ, show decide (kd h a = 5 ∧ 2 ≤ a ∧ 5 < 13) = true from decide_eq_true ⟨h1, h2, by decide⟩, rfl, by decide, Nat.le_of_ble_eq_true rfl⟩
theorem T_25_42 : tgt 25 42 = B_25_42 := rfl
theorem T_25_44 : tgt 25 44 = B_25_44 := rfl
theorem T_25_68 : tgt 25 68 = B_25_68 := rfl
theorem T_25_69 : tgt 25 69 = B_25_69 := rfl
theorem T_25_87 : tgt 25 87 = B_25_87 := rfl
theorem T_25_91 : tgt 25 91 = B_25_91 := rfl
theorem T_25_92 : tgt 25 92 = B_25_92 := rfl
theorem R_25 (μ : Nat) (cs : List IR) (ls : LV) (x : Int32) (h : MH) (hx : x = 0 ∨ x = 1) : rn 25 μ (.ireturn :: cs) ls [.int x] h = some (some (.int x), h) := rz_of (by decide +kernel) hx
theorem C_26 (a : Nat) (x0 : Int32) (x1 : Int32) (μ : Nat) (h : MH) (h1 : kd h a = 5) (h2 : 2 ≤ a) (hμ : 4 < μ) : cal 26 [.ref a, .int x0, .int x1] μ h = rn 26 (4) B_26_0 [some (.ref a), some (.int x0), some (.int x1)] [] h := cal_of ⟨hμ, show decide (kd h a = 5 ∧ 2 ≤ a ∧ 5 < 13) = true from decide_eq_true ⟨h1, h2, by decide⟩, rfl, by decide, Nat.le_of_ble_eq_true rfl⟩
theorem T_26_61 : tgt 26 61 = B_26_61 := rfl
theorem T_26_62 : tgt 26 62 = B_26_62 := rfl
theorem R_26 (μ : Nat) (cs : List IR) (ls : LV) (x : Int32) (h : MH) (hx : x = 0 ∨ x = 1) : rn 26 μ (.ireturn :: cs) ls [.int x] h = some (some (.int x), h) := rz_of (by decide +kernel) hx
theorem C_27 (a : Nat) (x0 : Int32) (x1 : Int32) (μ : Nat) (h : MH) (h1 : kd h a = 0) (h2 : 2 ≤ a) (hμ : 4 < μ) : cal 27 [.ref a, .int x0, .int x1] μ h = rn 27 (4) B_27_0 [some (.ref a), some (.int x0), some (.int x1), none, none, none, none, none] [] h := cal_of ⟨hμ, show decide (kd h a = 0 ∧ 2 ≤ a ∧ 0 < 13) = true from decide_eq_true ⟨h1, h2, by decide⟩, rfl, by decide, Nat.le_of_ble_eq_true rfl⟩
theorem T_27_8 : tgt 27 8 = B_27_8 := rfl
theorem T_27_34 : tgt 27 34 = B_27_34 := rfl
theorem T_27_35 : tgt 27 35 = B_27_35 := rfl
theorem T_27_54 : tgt 27 54 = B_27_54 := rfl
theorem T_27_55 : tgt 27 55 = B_27_55 := rfl
theorem T_27_69 : tgt 27 69 = B_27_69 := rfl
theorem T_27_79 : tgt 27 79 = B_27_79 := rfl
theorem T_27_87 : tgt 27 87 = B_27_87 := rfl
theorem T_27_93 : tgt 27 93 = B_27_93 := rfl
theorem T_27_106 : tgt 27 106 = B_27_106 := rfl
theorem T_27_107 : tgt 27 107 = B_27_107 := rfl
theorem R_27 (μ : Nat) (cs : List IR) (ls : LV) (x : Int32) (h : MH) (hx : x = 0 ∨ x = 1) : rn 27 μ (.ireturn :: cs) ls [.int x] h = some (some (.int x), h) := rz_of (by decide +kernel) hx
theorem C_28 (a : Nat) (x0 : Int32) (μ : Nat) (h : MH) (h1 : kd h a = 0) (h2 : 2 ≤ a) (hμ : 3 < μ) : cal 28 [.ref a, .int x0] μ h = rn 28 (3) B_28_0 [some (.ref a), some (.int x0)] [] h := cal_of ⟨hμ, show decide (kd h a = 0 ∧ 2 ≤ a ∧ 0 < 13) = true from decide_eq_true ⟨h1, h2, by decide⟩, rfl, by decide, Nat.le_of_ble_eq_true rfl⟩
theorem T_28_20 : tgt 28 20 = B_28_20 := rfl
theorem T_28_21 : tgt 28 21 = B_28_21 := rfl
theorem R_28 (μ : Nat) (cs : List IR) (ls : LV) (x : Int32) (h : MH) : rn 28 μ (.ireturn :: cs) ls [.int x] h = some (some (.int x), h) := by
  rw [rn_fix]; rfl
theorem C_29 (x0 : Nat) (x1 : Nat) (μ : Nat) (h : MH)  (hμ : 3 < μ) : cal 29 [.ref x0, .ref x1] μ h = rn 29 (3) B_29_0 [some (.ref x0), some (.ref x1), none, none] [] h := cal_of ⟨hμ, rfl, rfl, by decide, Nat.le_of_ble_eq_true rfl⟩
theorem T_29_5 : tgt 29 5 = B_29_5 := rfl
theorem T_29_20 : tgt 29 20 = B_29_20 := rfl
theorem R_29 (μ : Nat) (cs : List IR) (ls : LV) (h : MH) : rn 29 μ (.return_ :: cs) ls [] h = some (none, h) := by
  rw [rn_fix]; rfl
theorem C_30 (a : Nat) (x0 : Nat) (μ : Nat) (h : MH) (h1 : kd h a = 8) (h2 : 2 ≤ a) (hμ : 4 < μ) : cal 30 [.ref a, .ref x0] μ h = rn 30 (4) B_30_0 [some (.ref a), some (.ref x0), none] [] h := cal_of ⟨hμ, show decide (kd h a = 8 ∧ 2 ≤ a ∧ 8 < 13) = true from decide_eq_true ⟨h1, h2, by decide⟩, rfl, by decide, Nat.le_of_ble_eq_true rfl⟩
theorem T_30_40 : tgt 30 40 = B_30_40 := rfl
theorem T_30_65 : tgt 30 65 = B_30_65 := rfl
theorem T_30_66 : tgt 30 66 = B_30_66 := rfl
theorem T_30_84 : tgt 30 84 = B_30_84 := rfl
theorem R_30 (μ : Nat) (cs : List IR) (ls : LV) (h : MH) : rn 30 μ (.return_ :: cs) ls [] h = some (none, h) := by
  rw [rn_fix]; rfl
theorem C_31 (a : Nat) (μ : Nat) (h : MH) (h1 : kd h a = 8) (h2 : 2 ≤ a) (hμ : 3 < μ) : cal 31 [.ref a] μ h = rn 31 (3) B_31_0 [some (.ref a)] [] h := cal_of ⟨hμ, show decide (kd h a = 8 ∧ 2 ≤ a ∧ 8 < 13) = true from decide_eq_true ⟨h1, h2, by decide⟩, rfl, by decide, Nat.le_of_ble_eq_true rfl⟩
theorem R_31 (μ : Nat) (cs : List IR) (ls : LV) (h : MH) : rn 31 μ (.return_ :: cs) ls [] h = some (none, h) := by
  rw [rn_fix]; rfl
theorem C_32 (a : Nat) (x0 : Int32) (x1 : Int32) (μ : Nat) (h : MH) (h1 : kd h a = 8) (h2 : 2 ≤ a) (hμ : 3 < μ) : cal 32 [.ref a, .int x0, .int x1] μ h = rn 32 (3) B_32_0 [some (.ref a), some (.int x0), some (.int x1), none] [] h := cal_of ⟨hμ, show decide (kd h a = 8 ∧ 2 ≤ a ∧ 8 < 13) = true from decide_eq_true ⟨h1, h2, by decide⟩, rfl, by decide, Nat.le_of_ble_eq_true rfl⟩
theorem T_32_30 : tgt 32 30 = B_32_30 := rfl
theorem R_32 (μ : Nat) (cs : List IR) (ls : LV) (h : MH) : rn 32 μ (.return_ :: cs) ls [] h = some (none, h) := by
  rw [rn_fix]; rfl
theorem C_33 (a : Nat) (μ : Nat) (h : MH) (h1 : kd h a = 3) (h2 : 2 ≤ a) (hμ : 3 < μ) : cal 33 [.ref a] μ h = rn 33 (3) B_33_0 [some (.ref a)] [] h := cal_of ⟨hμ, show decide (kd h a = 3 ∧ 2 ≤ a ∧ 3 < 13) = true from decide_eq_true ⟨h1, h2, by decide⟩, rfl, by decide, Nat.le_of_ble_eq_true rfl⟩
theorem R_33 (μ : Nat) (cs : List IR) (ls : LV) (h : MH) : rn 33 μ (.return_ :: cs) ls [] h = some (none, h) := by
  rw [rn_fix]; rfl
theorem C_34 (a : Nat) (x0 : Int32) (x1 : Int32) (x2 : Int32) (x3 : Int32) (x4 : Int32) (μ : Nat) (h : MH) (h1 : kd h a = 11) (h2 : 2 ≤ a) (hμ : 4 < μ) : cal 34 [.ref a, .int x0, .int x1, .int x2, .int x3, .int x4] μ h = rn 34 (4) B_34_0 [some (.ref a), some (.int x0), some (.int x1), some (.int x2), some (.int x3), some (.int x4)] [] h := cal_of ⟨hμ, show decide (kd h a = 11 ∧ 2 ≤ a ∧ 11 < 13) = true from decide_eq_true ⟨h1, h2, by decide⟩, rfl, by decide, Nat.le_of_ble_eq_true rfl⟩
theorem T_34_18 : tgt 34 18 = B_34_18 := rfl
theorem R_34 (μ : Nat) (cs : List IR) (ls : LV) (x : Int32) (h : MH) : rn 34 μ (.ireturn :: cs) ls [.int x] h = some (some (.int x), h) := by
  rw [rn_fix]; rfl
theorem C_35 (a : Nat) (x0 : Int32) (μ : Nat) (h : MH) (h1 : kd h a = 9) (h2 : 2 ≤ a) (hμ : 3 < μ) : cal 35 [.ref a, .int x0] μ h = rn 35 (3) B_35_0 [some (.ref a), some (.int x0), none] [] h := cal_of ⟨hμ, show decide (kd h a = 9 ∧ 2 ≤ a ∧ 9 < 13) = true from decide_eq_true ⟨h1, h2, by decide⟩, rfl, by decide, Nat.le_of_ble_eq_true rfl⟩
theorem T_35_3 : tgt 35 3 = B_35_3 := rfl
theorem T_35_47 : tgt 35 47 = B_35_47 := rfl
theorem T_35_53 : tgt 35 53 = B_35_53 := rfl
theorem R_35 (μ : Nat) (cs : List IR) (ls : LV) (h : MH) : rn 35 μ (.return_ :: cs) ls [] h = some (none, h) := by
  rw [rn_fix]; rfl
theorem C_36 (a : Nat) (x0 : Int32) (μ : Nat) (h : MH) (h1 : kd h a = 11) (h2 : 2 ≤ a) (hμ : 3 < μ) : cal 36 [.ref a, .int x0] μ h = rn 36 (3) B_36_0 [some (.ref a), some (.int x0)] [] h := cal_of ⟨hμ, show decide (kd h a = 11 ∧ 2 ≤ a ∧ 11 < 13) = true from decide_eq_true ⟨h1, h2, by decide⟩, rfl, by decide, Nat.le_of_ble_eq_true rfl⟩
theorem T_36_15 : tgt 36 15 = B_36_15 := rfl
theorem T_36_17 : tgt 36 17 = B_36_17 := rfl
theorem R_36 (μ : Nat) (cs : List IR) (ls : LV) (x : Int32) (h : MH) : rn 36 μ (.ireturn :: cs) ls [.int x] h = some (some (.int x), h) := by
  rw [rn_fix]; rfl
theorem C_37 (a : Nat) (μ : Nat) (h : MH) (h1 : kd h a = 11) (h2 : 2 ≤ a) (hμ : 89 < μ) : cal 37 [.ref a] μ h = rn 37 (89) B_37_0 [some (.ref a), none, none] [] h := cal_of ⟨hμ, show decide (kd h a = 11 ∧ 2 ≤ a ∧ 11 < 13) = true from decide_eq_true ⟨h1, h2, by decide⟩, rfl, by decide, Nat.le_of_ble_eq_true rfl⟩
theorem T_37_26 : tgt 37 26 = B_37_26 := rfl
theorem R_37 (μ : Nat) (cs : List IR) (ls : LV) (x : Int32) (h : MH) : rn 37 μ (.ireturn :: cs) ls [.int x] h = some (some (.int x), h) := by
  rw [rn_fix]; rfl
theorem C_38 (a : Nat) (x0 : Nat) (μ : Nat) (h : MH) (h1 : kd h a = 6) (h2 : 2 ≤ a) (hμ : 88 < μ) : cal 38 [.ref a, .ref x0] μ h = rn 38 (88) B_38_0 [some (.ref a), some (.ref x0), none] [] h := cal_of ⟨hμ, show decide (kd h a = 6 ∧ 2 ≤ a ∧ 6 < 13) = true from decide_eq_true ⟨h1, h2, by decide⟩, rfl, by decide, Nat.le_of_ble_eq_true rfl⟩
theorem T_38_7 : tgt 38 7 = B_38_7 := rfl
theorem T_38_48 : tgt 38 48 = B_38_48 := rfl
theorem T_38_65 : tgt 38 65 = B_38_65 := rfl
theorem T_38_82 : tgt 38 82 = B_38_82 := rfl
theorem T_38_106 : tgt 38 106 = B_38_106 := rfl
theorem T_38_138 : tgt 38 138 = B_38_138 := rfl
theorem T_38_170 : tgt 38 170 = B_38_170 := rfl
theorem T_38_204 : tgt 38 204 = B_38_204 := rfl
theorem T_38_209 : tgt 38 209 = B_38_209 := rfl
theorem T_38_221 : tgt 38 221 = B_38_221 := rfl
theorem T_38_232 : tgt 38 232 = B_38_232 := rfl
theorem T_38_233 : tgt 38 233 = B_38_233 := rfl
theorem R_38 (μ : Nat) (cs : List IR) (ls : LV) (x : Int32) (h : MH) (hx : x = 0 ∨ x = 1) : rn 38 μ (.ireturn :: cs) ls [.int x] h = some (some (.int x), h) := rz_of (by decide +kernel) hx
theorem C_39 (a : Nat) (x0 : Nat) (μ : Nat) (h : MH) (h1 : kd h a = 6) (h2 : 2 ≤ a) (hμ : 7 < μ) : cal 39 [.ref a, .ref x0] μ h = rn 39 (7) B_39_0 [some (.ref a), some (.ref x0)] [] h := cal_of ⟨hμ, show decide (kd h a = 6 ∧ 2 ≤ a ∧ 6 < 13) = true from decide_eq_true ⟨h1, h2, by decide⟩, rfl, by decide, Nat.le_of_ble_eq_true rfl⟩
theorem R_39 (μ : Nat) (cs : List IR) (ls : LV) (h : MH) : rn 39 μ (.return_ :: cs) ls [] h = some (none, h) := by
  rw [rn_fix]; rfl
theorem C_40 (a : Nat) (μ : Nat) (h : MH) (h1 : kd h a = 5) (h2 : 2 ≤ a) (hμ : 5 < μ) : cal 40 [.ref a] μ h = rn 40 (5) B_40_0 [some (.ref a)] [] h := cal_of ⟨hμ, show decide (kd h a = 5 ∧ 2 ≤ a ∧ 5 < 13) = true from decide_eq_true ⟨h1, h2, by decide⟩, rfl, by decide, Nat.le_of_ble_eq_true rfl⟩
theorem R_40 (μ : Nat) (cs : List IR) (ls : LV) (h : MH) : rn 40 μ (.return_ :: cs) ls [] h = some (none, h) := by
  rw [rn_fix]; rfl
theorem C_41 (x0 : Nat) (x1 : Int32) (μ : Nat) (h : MH)  (hμ : 3 < μ) : cal 41 [.ref x0, .int x1] μ h = rn 41 (3) B_41_0 [some (.ref x0), some (.int x1), none, none] [] h := cal_of ⟨hμ, rfl, rfl, by decide, Nat.le_of_ble_eq_true rfl⟩
theorem T_41_5 : tgt 41 5 = B_41_5 := rfl
theorem T_41_20 : tgt 41 20 = B_41_20 := rfl
theorem R_41 (μ : Nat) (cs : List IR) (ls : LV) (h : MH) : rn 41 μ (.return_ :: cs) ls [] h = some (none, h) := by
  rw [rn_fix]; rfl
theorem C_42 (a : Nat) (μ : Nat) (h : MH) (h1 : kd h a = 1) (h2 : 2 ≤ a) (hμ : 4 < μ) : cal 42 [.ref a] μ h = rn 42 (4) B_42_0 [some (.ref a)] [] h := cal_of ⟨hμ, show decide (kd h a = 1 ∧ 2 ≤ a ∧ 1 < 13) = true from decide_eq_true ⟨h1, h2, by decide⟩, rfl, by decide, Nat.le_of_ble_eq_true rfl⟩
theorem R_42 (μ : Nat) (cs : List IR) (ls : LV) (h : MH) : rn 42 μ (.return_ :: cs) ls [] h = some (none, h) := by
  rw [rn_fix]; rfl
theorem C_43 (a : Nat) (μ : Nat) (h : MH) (h1 : kd h a = 9) (h2 : 2 ≤ a) (hμ : 6 < μ) : cal 43 [.ref a] μ h = rn 43 (6) B_43_0 [some (.ref a)] [] h := cal_of ⟨hμ, show decide (kd h a = 9 ∧ 2 ≤ a ∧ 9 < 13) = true from decide_eq_true ⟨h1, h2, by decide⟩, rfl, by decide, Nat.le_of_ble_eq_true rfl⟩
theorem R_43 (μ : Nat) (cs : List IR) (ls : LV) (h : MH) : rn 43 μ (.return_ :: cs) ls [] h = some (none, h) := by
  rw [rn_fix]; rfl
theorem C_44 (a : Nat) (μ : Nat) (h : MH) (h1 : kd h a = 9) (h2 : 2 ≤ a) (hμ : 5 < μ) : cal 44 [.ref a] μ h = rn 44 (5) B_44_0 [some (.ref a), none] [] h := cal_of ⟨hμ, show decide (kd h a = 9 ∧ 2 ≤ a ∧ 9 < 13) = true from decide_eq_true ⟨h1, h2, by decide⟩, rfl, by decide, Nat.le_of_ble_eq_true rfl⟩
theorem T_44_9 : tgt 44 9 = B_44_9 := rfl
theorem T_44_14 : tgt 44 14 = B_44_14 := rfl
theorem T_44_39 : tgt 44 39 = B_44_39 := rfl
theorem T_44_65 : tgt 44 65 = B_44_65 := rfl
theorem T_44_83 : tgt 44 83 = B_44_83 := rfl
theorem T_44_101 : tgt 44 101 = B_44_101 := rfl
theorem T_44_105 : tgt 44 105 = B_44_105 := rfl
theorem R_44 (μ : Nat) (cs : List IR) (ls : LV) (h : MH) : rn 44 μ (.return_ :: cs) ls [] h = some (none, h) := by
  rw [rn_fix]; rfl
theorem C_45 (a : Nat) (x0 : Int32) (μ : Nat) (h : MH) (h1 : kd h a = 9) (h2 : 2 ≤ a) (hμ : 3 < μ) : cal 45 [.ref a, .int x0] μ h = rn 45 (3) B_45_0 [some (.ref a), some (.int x0)] [] h := cal_of ⟨hμ, show decide (kd h a = 9 ∧ 2 ≤ a ∧ 9 < 13) = true from decide_eq_true ⟨h1, h2, by decide⟩, rfl, by decide, Nat.le_of_ble_eq_true rfl⟩
theorem T_45_28 : tgt 45 28 = B_45_28 := rfl
theorem T_45_29 : tgt 45 29 = B_45_29 := rfl
theorem R_45 (μ : Nat) (cs : List IR) (ls : LV) (x : Int32) (h : MH) : rn 45 μ (.ireturn :: cs) ls [.int x] h = some (some (.int x), h) := by
  rw [rn_fix]; rfl
theorem C_46 (x0 : Int32) (μ : Nat) (h : MH)  (hμ : 3 < μ) : cal 46 [.int x0] μ h = rn 46 (3) B_46_0 [some (.int x0)] [] h := cal_of ⟨hμ, rfl, rfl, by decide, Nat.le_of_ble_eq_true rfl⟩
theorem T_46_12 : tgt 46 12 = B_46_12 := rfl
theorem T_46_16 : tgt 46 16 = B_46_16 := rfl
theorem T_46_17 : tgt 46 17 = B_46_17 := rfl
theorem R_46 (μ : Nat) (cs : List IR) (ls : LV) (x : Int32) (h : MH) (hx : x = 0 ∨ x = 1) : rn 46 μ (.ireturn :: cs) ls [.int x] h = some (some (.int x), h) := rz_of (by decide +kernel) hx
theorem C_47 (x0 : Int32) (μ : Nat) (h : MH)  (hμ : 3 < μ) : cal 47 [.int x0] μ h = rn 47 (3) B_47_0 [some (.int x0)] [] h := cal_of ⟨hμ, rfl, rfl, by decide, Nat.le_of_ble_eq_true rfl⟩
theorem T_47_16 : tgt 47 16 = B_47_16 := rfl
theorem T_47_17 : tgt 47 17 = B_47_17 := rfl
theorem R_47 (μ : Nat) (cs : List IR) (ls : LV) (x : Int32) (h : MH) (hx : x = 0 ∨ x = 1) : rn 47 μ (.ireturn :: cs) ls [.int x] h = some (some (.int x), h) := rz_of (by decide +kernel) hx
theorem C_48 (a : Nat) (μ : Nat) (h : MH) (h1 : kd h a = 9) (h2 : 2 ≤ a) (hμ : 4 < μ) : cal 48 [.ref a] μ h = rn 48 (4) B_48_0 [some (.ref a)] [] h := cal_of ⟨hμ, show decide (kd h a = 9 ∧ 2 ≤ a ∧ 9 < 13) = true from decide_eq_true ⟨h1, h2, by decide⟩, rfl, by decide, Nat.le_of_ble_eq_true rfl⟩
theorem T_48_5 : tgt 48 5 = B_48_5 := rfl
theorem T_48_64 : tgt 48 64 = B_48_64 := rfl
theorem T_48_83 : tgt 48 83 = B_48_83 := rfl
theorem T_48_84 : tgt 48 84 = B_48_84 := rfl
theorem R_48 (μ : Nat) (cs : List IR) (ls : LV) (h : MH) : rn 48 μ (.return_ :: cs) ls [] h = some (none, h) := by
  rw [rn_fix]; rfl
theorem C_49 (x0 : Int32) (μ : Nat) (h : MH)  (hμ : 3 < μ) : cal 49 [.int x0] μ h = rn 49 (3) B_49_0 [some (.int x0)] [] h := cal_of ⟨hμ, rfl, rfl, by decide, Nat.le_of_ble_eq_true rfl⟩
theorem T_49_16 : tgt 49 16 = B_49_16 := rfl
theorem T_49_17 : tgt 49 17 = B_49_17 := rfl
theorem R_49 (μ : Nat) (cs : List IR) (ls : LV) (x : Int32) (h : MH) (hx : x = 0 ∨ x = 1) : rn 49 μ (.ireturn :: cs) ls [.int x] h = some (some (.int x), h) := rz_of (by decide +kernel) hx
theorem C_50 (a : Nat) (μ : Nat) (h : MH) (h1 : kd h a = 9) (h2 : 2 ≤ a) (hμ : 4 < μ) : cal 50 [.ref a] μ h = rn 50 (4) B_50_0 [some (.ref a), none] [] h := cal_of ⟨hμ, show decide (kd h a = 9 ∧ 2 ≤ a ∧ 9 < 13) = true from decide_eq_true ⟨h1, h2, by decide⟩, rfl, by decide, Nat.le_of_ble_eq_true rfl⟩
theorem T_50_5 : tgt 50 5 = B_50_5 := rfl
theorem T_50_66 : tgt 50 66 = B_50_66 := rfl
theorem T_50_97 : tgt 50 97 = B_50_97 := rfl
theorem T_50_98 : tgt 50 98 = B_50_98 := rfl
theorem T_50_108 : tgt 50 108 = B_50_108 := rfl
theorem T_50_109 : tgt 50 109 = B_50_109 := rfl
theorem R_50 (μ : Nat) (cs : List IR) (ls : LV) (h : MH) : rn 50 μ (.return_ :: cs) ls [] h = some (none, h) := by
  rw [rn_fix]; rfl
theorem C_51 (a : Nat) (μ : Nat) (h : MH) (h1 : kd h a = 9) (h2 : 2 ≤ a) (hμ : 4 < μ) : cal 51 [.ref a] μ h = rn 51 (4) B_51_0 [some (.ref a)] [] h := cal_of ⟨hμ, show decide (kd h a = 9 ∧ 2 ≤ a ∧ 9 < 13) = true from decide_eq_true ⟨h1, h2, by decide⟩, rfl, by decide, Nat.le_of_ble_eq_true rfl⟩
theorem T_51_27 : tgt 51 27 = B_51_27 := rfl
theorem T_51_28 : tgt 51 28 = B_51_28 := rfl
theorem R_51 (μ : Nat) (cs : List IR) (ls : LV) (h : MH) : rn 51 μ (.return_ :: cs) ls [] h = some (none, h) := by
  rw [rn_fix]; rfl
theorem C_52 (x0 : Int32) (μ : Nat) (h : MH)  (hμ : 3 < μ) : cal 52 [.int x0] μ h = rn 52 (3) B_52_0 [some (.int x0)] [] h := cal_of ⟨hμ, rfl, rfl, by decide, Nat.le_of_ble_eq_true rfl⟩
theorem T_52_120 : tgt 52 120 = B_52_120 := rfl
theorem T_52_122 : tgt 52 122 = B_52_122 := rfl
theorem R_52 (μ : Nat) (cs : List IR) (ls : LV) (x : Int32) (h : MH) (hx : x = 0 ∨ x = 1) : rn 52 μ (.ireturn :: cs) ls [.int x] h = some (some (.int x), h) := rz_of (by decide +kernel) hx
theorem C_53 (a : Nat) (x0 : Int64) (μ : Nat) (h : MH) (h1 : kd h a = 6) (h2 : 2 ≤ a) (hμ : 3 < μ) : cal 53 [.ref a, .long x0] μ h = rn 53 (3) B_53_0 [some (.ref a), some (.long x0), none] [] h := cal_of ⟨hμ, show decide (kd h a = 6 ∧ 2 ≤ a ∧ 6 < 13) = true from decide_eq_true ⟨h1, h2, by decide⟩, rfl, by decide, Nat.le_of_ble_eq_true rfl⟩
theorem T_53_27 : tgt 53 27 = B_53_27 := rfl
theorem T_53_28 : tgt 53 28 = B_53_28 := rfl
theorem R_53 (μ : Nat) (cs : List IR) (ls : LV) (x : Int32) (h : MH) (hx : x = 0 ∨ x = 1) : rn 53 μ (.ireturn :: cs) ls [.int x] h = some (some (.int x), h) := rz_of (by decide +kernel) hx
theorem C_54 (a : Nat) (μ : Nat) (h : MH) (h1 : kd h a = 6) (h2 : 2 ≤ a) (hμ : 7 < μ) : cal 54 [.ref a] μ h = rn 54 (7) B_54_0 [some (.ref a), none, none, none] [] h := cal_of ⟨hμ, show decide (kd h a = 6 ∧ 2 ≤ a ∧ 6 < 13) = true from decide_eq_true ⟨h1, h2, by decide⟩, rfl, by decide, Nat.le_of_ble_eq_true rfl⟩
theorem T_54_46 : tgt 54 46 = B_54_46 := rfl
theorem R_54 (μ : Nat) (cs : List IR) (ls : LV) (h : MH) : rn 54 μ (.return_ :: cs) ls [] h = some (none, h) := by
  rw [rn_fix]; rfl
theorem C_55 (a : Nat) (x0 : Nat) (μ : Nat) (h : MH) (h1 : kd h a = 6) (h2 : 2 ≤ a) (hμ : 6 < μ) : cal 55 [.ref a, .ref x0] μ h = rn 55 (6) B_55_0 [some (.ref a), some (.ref x0)] [] h := cal_of ⟨hμ, show decide (kd h a = 6 ∧ 2 ≤ a ∧ 6 < 13) = true from decide_eq_true ⟨h1, h2, by decide⟩, rfl, by decide, Nat.le_of_ble_eq_true rfl⟩
theorem T_55_12 : tgt 55 12 = B_55_12 := rfl
theorem R_55 (μ : Nat) (cs : List IR) (ls : LV) (h : MH) : rn 55 μ (.return_ :: cs) ls [] h = some (none, h) := by
  rw [rn_fix]; rfl
theorem C_56 (a : Nat) (μ : Nat) (h : MH) (h1 : kd h a = 4) (h2 : 2 ≤ a) (hμ : 3 < μ) : cal 56 [.ref a] μ h = rn 56 (3) B_56_0 [some (.ref a)] [] h := cal_of ⟨hμ, show decide (kd h a = 4 ∧ 2 ≤ a ∧ 4 < 13) = true from decide_eq_true ⟨h1, h2, by decide⟩, rfl, by decide, Nat.le_of_ble_eq_true rfl⟩
theorem T_56_16 : tgt 56 16 = B_56_16 := rfl
theorem T_56_17 : tgt 56 17 = B_56_17 := rfl
theorem R_56 (μ : Nat) (cs : List IR) (ls : LV) (x : Int32) (h : MH) (hx : x = 0 ∨ x = 1) : rn 56 μ (.ireturn :: cs) ls [.int x] h = some (some (.int x), h) := rz_of (by decide +kernel) hx
theorem C_57 (a : Nat) (x0 : Int32) (μ : Nat) (h : MH) (h1 : kd h a = 6) (h2 : 2 ≤ a) (hμ : 3 < μ) : cal 57 [.ref a, .int x0] μ h = rn 57 (3) B_57_0 [some (.ref a), some (.int x0)] [] h := cal_of ⟨hμ, show decide (kd h a = 6 ∧ 2 ≤ a ∧ 6 < 13) = true from decide_eq_true ⟨h1, h2, by decide⟩, rfl, by decide, Nat.le_of_ble_eq_true rfl⟩
theorem T_57_23 : tgt 57 23 = B_57_23 := rfl
theorem T_57_24 : tgt 57 24 = B_57_24 := rfl
theorem T_57_46 : tgt 57 46 = B_57_46 := rfl
theorem R_57 (μ : Nat) (cs : List IR) (ls : LV) (h : MH) : rn 57 μ (.return_ :: cs) ls [] h = some (none, h) := by
  rw [rn_fix]; rfl
theorem C_58 (a : Nat) (x0 : Nat) (μ : Nat) (h : MH) (h1 : kd h a = 6) (h2 : 2 ≤ a) (hμ : 6 < μ) : cal 58 [.ref a, .ref x0] μ h = rn 58 (6) B_58_0 [some (.ref a), some (.ref x0), none, none] [] h := cal_of ⟨hμ, show decide (kd h a = 6 ∧ 2 ≤ a ∧ 6 < 13) = true from decide_eq_true ⟨h1, h2, by decide⟩, rfl, by decide, Nat.le_of_ble_eq_true rfl⟩
theorem T_58_23 : tgt 58 23 = B_58_23 := rfl
theorem T_58_37 : tgt 58 37 = B_58_37 := rfl
theorem R_58 (μ : Nat) (cs : List IR) (ls : LV) (x : Int64) (h : MH) : rn 58 μ (.lreturn :: cs) ls [.long x] h = some (some (.long x), h) := by
  rw [rn_fix]; rfl
theorem C_59 (a : Nat) (μ : Nat) (h : MH) (h1 : kd h a = 6) (h2 : 2 ≤ a) (hμ : 3 < μ) : cal 59 [.ref a] μ h = rn 59 (3) B_59_0 [some (.ref a), none] [] h := cal_of ⟨hμ, show decide (kd h a = 6 ∧ 2 ≤ a ∧ 6 < 13) = true from decide_eq_true ⟨h1, h2, by decide⟩, rfl, by decide, Nat.le_of_ble_eq_true rfl⟩
theorem T_59_13 : tgt 59 13 = B_59_13 := rfl
theorem T_59_15 : tgt 59 15 = B_59_15 := rfl
theorem T_59_41 : tgt 59 41 = B_59_41 := rfl
theorem T_59_47 : tgt 59 47 = B_59_47 := rfl
theorem R_59 (μ : Nat) (cs : List IR) (ls : LV) (x : Int32) (h : MH) (hx : x = 0 ∨ x = 1) : rn 59 μ (.ireturn :: cs) ls [.int x] h = some (some (.int x), h) := rz_of (by decide +kernel) hx
theorem C_60 (a : Nat) (x0 : Int64) (μ : Nat) (h : MH) (h1 : kd h a = 4) (h2 : 2 ≤ a) (hμ : 3 < μ) : cal 60 [.ref a, .long x0] μ h = rn 60 (3) B_60_0 [some (.ref a), some (.long x0), none, none] [] h := cal_of ⟨hμ, show decide (kd h a = 4 ∧ 2 ≤ a ∧ 4 < 13) = true from decide_eq_true ⟨h1, h2, by decide⟩, rfl, by decide, Nat.le_of_ble_eq_true rfl⟩
theorem T_60_2 : tgt 60 2 = B_60_2 := rfl
theorem T_60_32 : tgt 60 32 = B_60_32 := rfl
theorem T_60_38 : tgt 60 38 = B_60_38 := rfl
theorem R_60 (μ : Nat) (cs : List IR) (ls : LV) (x : Int32) (h : MH) : rn 60 μ (.ireturn :: cs) ls [.int x] h = some (some (.int x), h) := by
  rw [rn_fix]; rfl
theorem C_61 (a : Nat) (x0 : Int32) (x1 : Int32) (μ : Nat) (h : MH) (h1 : kd h a = 6) (h2 : 2 ≤ a) (hμ : 6 < μ) : cal 61 [.ref a, .int x0, .int x1] μ h = rn 61 (6) B_61_0 [some (.ref a), some (.int x0), some (.int x1), none] [] h := cal_of ⟨hμ, show decide (kd h a = 6 ∧ 2 ≤ a ∧ 6 < 13) = true from decide_eq_true ⟨h1, h2, by decide⟩, rfl, by decide, Nat.le_of_ble_eq_true rfl⟩
theorem T_61_27 : tgt 61 27 = B_61_27 := rfl
theorem T_61_37 : tgt 61 37 = B_61_37 := rfl
theorem T_61_42 : tgt 61 42 = B_61_42 := rfl
theorem R_61 (μ : Nat) (cs : List IR) (ls : LV) (x : Int32) (h : MH) : rn 61 μ (.ireturn :: cs) ls [.int x] h = some (some (.int x), h) := by
  rw [rn_fix]; rfl
theorem C_62 (a : Nat) (x0 : Int64) (x1 : Int32) (μ : Nat) (h : MH) (h1 : kd h a = 5) (h2 : 2 ≤ a) (hμ : 4 < μ) : cal 62 [.ref a, .long x0, .int x1] μ h = rn 62 (4) B_62_0 [some (.ref a), some (.long x0), none, some (.int x1)] [] h := cal_of ⟨hμ, show decide (kd h a = 5 ∧ 2 ≤ a ∧ 5 < 13) = true from decide_eq_true ⟨h1, h2, by decide⟩, rfl, by decide, Nat.le_of_ble_eq_true rfl⟩
theorem T_62_31 : tgt 62 31 = B_62_31 := rfl
theorem R_62 (μ : Nat) (cs : List IR) (ls : LV) (h : MH) : rn 62 μ (.return_ :: cs) ls [] h = some (none, h) := by
  rw [rn_fix]; rfl
theorem C_63 (a : Nat) (x0 : Int64) (μ : Nat) (h : MH) (h1 : kd h a = 4) (h2 : 2 ≤ a) (hμ : 3 < μ) : cal 63 [.ref a, .long x0] μ h = rn 63 (3) B_63_0 [some (.ref a), some (.long x0), none] [] h := cal_of ⟨hμ, show decide (kd h a = 4 ∧ 2 ≤ a ∧ 4 < 13) = true from decide_eq_true ⟨h1, h2, by decide⟩, rfl, by decide, Nat.le_of_ble_eq_true rfl⟩
theorem T_63_39 : tgt 63 39 = B_63_39 := rfl
theorem R_63 (μ : Nat) (cs : List IR) (ls : LV) (h : MH) : rn 63 μ (.return_ :: cs) ls [] h = some (none, h) := by
  rw [rn_fix]; rfl
theorem C_64 (a : Nat) (μ : Nat) (h : MH) (h1 : kd h a = 6) (h2 : 2 ≤ a) (hμ : 7 < μ) : cal 64 [.ref a] μ h = rn 64 (7) B_64_0 [some (.ref a), none, none, none] [] h := cal_of ⟨hμ, show decide (kd h a = 6 ∧ 2 ≤ a ∧ 6 < 13) = true from decide_eq_true ⟨h1, h2, by decide⟩, rfl, by decide, Nat.le_of_ble_eq_true rfl⟩
theorem T_64_47 : tgt 64 47 = B_64_47 := rfl
theorem T_64_66 : tgt 64 66 = B_64_66 := rfl
theorem T_64_82 : tgt 64 82 = B_64_82 := rfl
theorem R_64 (μ : Nat) (cs : List IR) (ls : LV) (h : MH) : rn 64 μ (.return_ :: cs) ls [] h = some (none, h) := by
  rw [rn_fix]; rfl
theorem C_65 (a : Nat) (x0 : Int64) (x1 : Int32) (μ : Nat) (h : MH) (h1 : kd h a = 5) (h2 : 2 ≤ a) (hμ : 4 < μ) : cal 65 [.ref a, .long x0, .int x1] μ h = rn 65 (4) B_65_0 [some (.ref a), some (.long x0), none, some (.int x1)] [] h := cal_of ⟨hμ, show decide (kd h a = 5 ∧ 2 ≤ a ∧ 5 < 13) = true from decide_eq_true ⟨h1, h2, by decide⟩, rfl, by decide, Nat.le_of_ble_eq_true rfl⟩
theorem T_65_31 : tgt 65 31 = B_65_31 := rfl
theorem R_65 (μ : Nat) (cs : List IR) (ls : LV) (h : MH) : rn 65 μ (.return_ :: cs) ls [] h = some (none, h) := by
  rw [rn_fix]; rfl
theorem C_66 (a : Nat) (μ : Nat) (h : MH) (h1 : kd h a = 6) (h2 : 2 ≤ a) (hμ : 87 < μ) : cal 66 [.ref a] μ h = rn 66 (87) B_66_0 [some (.ref a), none, none, none, none, none] [] h := cal_of ⟨hμ, show decide (kd h a = 6 ∧ 2 ≤ a ∧ 6 < 13) = true from decide_eq_true ⟨h1, h2, by decide⟩, rfl, by decide, Nat.le_of_ble_eq_true rfl⟩
theorem T_66_73 : tgt 66 73 = B_66_73 := rfl
theorem T_66_132 : tgt 66 132 = B_66_132 := rfl
theorem R_66 (μ : Nat) (cs : List IR) (ls : LV) (h : MH) : rn 66 μ (.return_ :: cs) ls [] h = some (none, h) := by
  rw [rn_fix]; rfl
theorem C_67 (a : Nat) (x0 : Int64) (μ : Nat) (h : MH) (h1 : kd h a = 6) (h2 : 2 ≤ a) (hμ : 6 < μ) : cal 67 [.ref a, .long x0] μ h = rn 67 (6) B_67_0 [some (.ref a), some (.long x0), none] [] h := cal_of ⟨hμ, show decide (kd h a = 6 ∧ 2 ≤ a ∧ 6 < 13) = true from decide_eq_true ⟨h1, h2, by decide⟩, rfl, by decide, Nat.le_of_ble_eq_true rfl⟩
theorem T_67_13 : tgt 67 13 = B_67_13 := rfl
theorem R_67 (μ : Nat) (cs : List IR) (ls : LV) (h : MH) : rn 67 μ (.return_ :: cs) ls [] h = some (none, h) := by
  rw [rn_fix]; rfl
theorem C_68 (a : Nat) (x0 : Nat) (μ : Nat) (h : MH) (h1 : kd h a = 6) (h2 : 2 ≤ a) (hμ : 4 < μ) : cal 68 [.ref a, .ref x0] μ h = rn 68 (4) B_68_0 [some (.ref a), some (.ref x0), none] [] h := cal_of ⟨hμ, show decide (kd h a = 6 ∧ 2 ≤ a ∧ 6 < 13) = true from decide_eq_true ⟨h1, h2, by decide⟩, rfl, by decide, Nat.le_of_ble_eq_true rfl⟩
theorem T_68_14 : tgt 68 14 = B_68_14 := rfl
theorem T_68_36 : tgt 68 36 = B_68_36 := rfl
theorem R_68 (μ : Nat) (cs : List IR) (ls : LV) (x : Int32) (h : MH) : rn 68 μ (.ireturn :: cs) ls [.int x] h = some (some (.int x), h) := by
  rw [rn_fix]; rfl
theorem C_69 (a : Nat) (x0 : Int32) (x1 : Int32) (μ : Nat) (h : MH) (h1 : kd h a = 5) (h2 : 2 ≤ a) (hμ : 4 < μ) : cal 69 [.ref a, .int x0, .int x1] μ h = rn 69 (4) B_69_0 [some (.ref a), some (.int x0), some (.int x1), none] [] h := cal_of ⟨hμ, show decide (kd h a = 5 ∧ 2 ≤ a ∧ 5 < 13) = true from decide_eq_true ⟨h1, h2, by decide⟩, rfl, by decide, Nat.le_of_ble_eq_true rfl⟩
theorem T_69_55 : tgt 69 55 = B_69_55 := rfl
theorem R_69 (μ : Nat) (cs : List IR) (ls : LV) (h : MH) : rn 69 μ (.return_ :: cs) ls [] h = some (none, h) := by
  rw [rn_fix]; rfl
theorem C_70 (a : Nat) (x0 : Int32) (μ : Nat) (h : MH) (h1 : kd h a = 6) (h2 : 2 ≤ a) (hμ : 7 < μ) : cal 70 [.ref a, .int x0] μ h = rn 70 (7) B_70_0 [some (.ref a), some (.int x0), none] [] h := cal_of ⟨hμ, show decide (kd h a = 6 ∧ 2 ≤ a ∧ 6 < 13) = true from decide_eq_true ⟨h1, h2, by decide⟩, rfl, by decide, Nat.le_of_ble_eq_true rfl⟩
theorem T_70_2 : tgt 70 2 = B_70_2 := rfl
theorem T_70_48 : tgt 70 48 = B_70_48 := rfl
theorem T_70_80 : tgt 70 80 = B_70_80 := rfl
theorem T_70_110 : tgt 70 110 = B_70_110 := rfl
theorem T_70_118 : tgt 70 118 = B_70_118 := rfl
theorem T_70_119 : tgt 70 119 = B_70_119 := rfl
theorem T_70_125 : tgt 70 125 = B_70_125 := rfl
theorem R_70 (μ : Nat) (cs : List IR) (ls : LV) (h : MH) : rn 70 μ (.return_ :: cs) ls [] h = some (none, h) := by
  rw [rn_fix]; rfl
theorem C_71 (a : Nat) (x0 : Int32) (x1 : Int32) (μ : Nat) (h : MH) (h1 : kd h a = 6) (h2 : 2 ≤ a) (hμ : 6 < μ) : cal 71 [.ref a, .int x0, .int x1] μ h = rn 71 (6) B_71_0 [some (.ref a), some (.int x0), some (.int x1)] [] h := cal_of ⟨hμ, show decide (kd h a = 6 ∧ 2 ≤ a ∧ 6 < 13) = true from decide_eq_true ⟨h1, h2, by decide⟩, rfl, by decide, Nat.le_of_ble_eq_true rfl⟩
theorem T_71_13 : tgt 71 13 = B_71_13 := rfl
theorem R_71 (μ : Nat) (cs : List IR) (ls : LV) (x : Int32) (h : MH) : rn 71 μ (.ireturn :: cs) ls [.int x] h = some (some (.int x), h) := by
  rw [rn_fix]; rfl
theorem C_72 (a : Nat) (x0 : Int32) (μ : Nat) (h : MH) (h1 : kd h a = 6) (h2 : 2 ≤ a) (hμ : 6 < μ) : cal 72 [.ref a, .int x0] μ h = rn 72 (6) B_72_0 [some (.ref a), some (.int x0), none, none, none] [] h := cal_of ⟨hμ, show decide (kd h a = 6 ∧ 2 ≤ a ∧ 6 < 13) = true from decide_eq_true ⟨h1, h2, by decide⟩, rfl, by decide, Nat.le_of_ble_eq_true rfl⟩
theorem T_72_18 : tgt 72 18 = B_72_18 := rfl
theorem T_72_80 : tgt 72 80 = B_72_80 := rfl
theorem T_72_95 : tgt 72 95 = B_72_95 := rfl
theorem T_72_129 : tgt 72 129 = B_72_129 := rfl
theorem T_72_150 : tgt 72 150 = B_72_150 := rfl
theorem T_72_160 : tgt 72 160 = B_72_160 := rfl
theorem R_72 (μ : Nat) (cs : List IR) (ls : LV) (h : MH) : rn 72 μ (.return_ :: cs) ls [] h = some (none, h) := by
  rw [rn_fix]; rfl
theorem C_73 (a : Nat) (x0 : Int32) (x1 : Int32) (μ : Nat) (h : MH) (h1 : kd h a = 5) (h2 : 2 ≤ a) (hμ : 4 < μ) : cal 73 [.ref a, .int x0, .int x1] μ h = rn 73 (4) B_73_0 [some (.ref a), some (.int x0), some (.int x1)] [] h := cal_of ⟨hμ, show decide (kd h a = 5 ∧ 2 ≤ a ∧ 5 < 13) = true from decide_eq_true ⟨h1, h2, by decide⟩, rfl, by decide, Nat.le_of_ble_eq_true rfl⟩
theorem T_73_33 : tgt 73 33 = B_73_33 := rfl
theorem T_73_34 : tgt 73 34 = B_73_34 := rfl
theorem R_73 (μ : Nat) (cs : List IR) (ls : LV) (x : Int32) (h : MH) (hx : x = 0 ∨ x = 1) : rn 73 μ (.ireturn :: cs) ls [.int x] h = some (some (.int x), h) := rz_of (by decide +kernel) hx
theorem C_74 (x0 : Int32) (μ : Nat) (h : MH)  (hμ : 3 < μ) : cal 74 [.int x0] μ h = rn 74 (3) B_74_0 [some (.int x0)] [] h := cal_of ⟨hμ, rfl, rfl, by decide, Nat.le_of_ble_eq_true rfl⟩
theorem T_74_14 : tgt 74 14 = B_74_14 := rfl
theorem T_74_15 : tgt 74 15 = B_74_15 := rfl
theorem R_74 (μ : Nat) (cs : List IR) (ls : LV) (x : Int32) (h : MH) (hx : x = 0 ∨ x = 1) : rn 74 μ (.ireturn :: cs) ls [.int x] h = some (some (.int x), h) := rz_of (by decide +kernel) hx
theorem C_75 (a : Nat) (x0 : Int32) (x1 : Int32) (μ : Nat) (h : MH) (h1 : kd h a = 5) (h2 : 2 ≤ a) (hμ : 4 < μ) : cal 75 [.ref a, .int x0, .int x1] μ h = rn 75 (4) B_75_0 [some (.ref a), some (.int x0), some (.int x1)] [] h := cal_of ⟨hμ, show decide (kd h a = 5 ∧ 2 ≤ a ∧ 5 < 13) = true from decide_eq_true ⟨h1, h2, by decide⟩, rfl, by decide, Nat.le_of_ble_eq_true rfl⟩
theorem T_75_19 : tgt 75 19 = B_75_19 := rfl
theorem R_75 (μ : Nat) (cs : List IR) (ls : LV) (h : MH) : rn 75 μ (.return_ :: cs) ls [] h = some (none, h) := by
  rw [rn_fix]; rfl
theorem C_76 (a : Nat) (x0 : Int32) (x1 : Int32) (μ : Nat) (h : MH) (h1 : kd h a = 5) (h2 : 2 ≤ a) (hμ : 4 < μ) : cal 76 [.ref a, .int x0, .int x1] μ h = rn 76 (4) B_76_0 [some (.ref a), some (.int x0), some (.int x1)] [] h := cal_of ⟨hμ, show decide (kd h a = 5 ∧ 2 ≤ a ∧ 5 < 13) = true from decide_eq_true ⟨h1, h2, by decide⟩, rfl, by decide, Nat.le_of_ble_eq_true rfl⟩
theorem T_76_19 : tgt 76 19 = B_76_19 := rfl
theorem R_76 (μ : Nat) (cs : List IR) (ls : LV) (h : MH) : rn 76 μ (.return_ :: cs) ls [] h = some (none, h) := by
  rw [rn_fix]; rfl
theorem C_77 (a : Nat) (x0 : Int32) (x1 : Int32) (μ : Nat) (h : MH) (h1 : kd h a = 5) (h2 : 2 ≤ a) (hμ : 4 < μ) : cal 77 [.ref a, .int x0, .int x1] μ h = rn 77 (4) B_77_0 [some (.ref a), some (.int x0), some (.int x1)] [] h := cal_of ⟨hμ, show decide (kd h a = 5 ∧ 2 ≤ a ∧ 5 < 13) = true from decide_eq_true ⟨h1, h2, by decide⟩, rfl, by decide, Nat.le_of_ble_eq_true rfl⟩
theorem T_77_19 : tgt 77 19 = B_77_19 := rfl
theorem R_77 (μ : Nat) (cs : List IR) (ls : LV) (h : MH) : rn 77 μ (.return_ :: cs) ls [] h = some (none, h) := by
  rw [rn_fix]; rfl
theorem C_78 (a : Nat) (x0 : Int32) (μ : Nat) (h : MH) (h1 : kd h a = 6) (h2 : 2 ≤ a) (hμ : 86 < μ) : cal 78 [.ref a, .int x0] μ h = rn 78 (86) B_78_0 [some (.ref a), some (.int x0)] [] h := cal_of ⟨hμ, show decide (kd h a = 6 ∧ 2 ≤ a ∧ 6 < 13) = true from decide_eq_true ⟨h1, h2, by decide⟩, rfl, by decide, Nat.le_of_ble_eq_true rfl⟩
theorem T_78_8 : tgt 78 8 = B_78_8 := rfl
theorem R_78 (μ : Nat) (cs : List IR) (ls : LV) (h : MH) : rn 78 μ (.return_ :: cs) ls [] h = some (none, h) := by
  rw [rn_fix]; rfl
theorem C_79 (a : Nat) (x0 : Int32) (μ : Nat) (h : MH) (h1 : kd h a = 1) (h2 : 2 ≤ a) (hμ : 3 < μ) : cal 79 [.ref a, .int x0] μ h = rn 79 (3) B_79_0 [some (.ref a), some (.int x0)] [] h := cal_of ⟨hμ, show decide (kd h a = 1 ∧ 2 ≤ a ∧ 1 < 13) = true from decide_eq_true ⟨h1, h2, by decide⟩, rfl, by decide, Nat.le_of_ble_eq_true rfl⟩
theorem T_79_20 : tgt 79 20 = B_79_20 := rfl
theorem R_79 (μ : Nat) (cs : List IR) (ls : LV) (h : MH) : rn 79 μ (.return_ :: cs) ls [] h = some (none, h) := by
  rw [rn_fix]; rfl
theorem C_80 (a : Nat) (x0 : Int32) (μ : Nat) (h : MH) (h1 : kd h a = 6) (h2 : 2 ≤ a) (hμ : mu 80 [.ref a, .int x0] < μ) : cal 80 [.ref a, .int x0] μ h = rn 80 (mu 80 [.ref a, .int x0]) B_80_0 [some (.ref a), some (.int x0), none] [] h := cal_of ⟨hμ, show decide (kd h a = 6 ∧ 2 ≤ a ∧ 6 < 13) = true from decide_eq_true ⟨h1, h2, by decide⟩, rfl, by decide, Nat.le_of_ble_eq_true rfl⟩
theorem T_80_7 : tgt 80 7 = B_80_7 := rfl
theorem T_80_54 : tgt 80 54 = B_80_54 := rfl
theorem R_80 (μ : Nat) (cs : List IR) (ls : LV) (h : MH) : rn 80 μ (.return_ :: cs) ls [] h = some (none, h) := by
  rw [rn_fix]; rfl
theorem C_81 (a : Nat) (x0 : Int32) (μ : Nat) (h : MH) (h1 : kd h a = 6) (h2 : 2 ≤ a) (hμ : mu 81 [.ref a, .int x0] < μ) : cal 81 [.ref a, .int x0] μ h = rn 81 (mu 81 [.ref a, .int x0]) B_81_0 [some (.ref a), some (.int x0), none] [] h := cal_of ⟨hμ, show decide (kd h a = 6 ∧ 2 ≤ a ∧ 6 < 13) = true from decide_eq_true ⟨h1, h2, by decide⟩, rfl, by decide, Nat.le_of_ble_eq_true rfl⟩
theorem T_81_7 : tgt 81 7 = B_81_7 := rfl
theorem T_81_54 : tgt 81 54 = B_81_54 := rfl
theorem R_81 (μ : Nat) (cs : List IR) (ls : LV) (h : MH) : rn 81 μ (.return_ :: cs) ls [] h = some (none, h) := by
  rw [rn_fix]; rfl
theorem C_82 (a : Nat) (x0 : Int32) (μ : Nat) (h : MH) (h1 : kd h a = 6) (h2 : 2 ≤ a) (hμ : mu 82 [.ref a, .int x0] < μ) : cal 82 [.ref a, .int x0] μ h = rn 82 (mu 82 [.ref a, .int x0]) B_82_0 [some (.ref a), some (.int x0), none] [] h := cal_of ⟨hμ, show decide (kd h a = 6 ∧ 2 ≤ a ∧ 6 < 13) = true from decide_eq_true ⟨h1, h2, by decide⟩, rfl, by decide, Nat.le_of_ble_eq_true rfl⟩
theorem T_82_22 : tgt 82 22 = B_82_22 := rfl
theorem T_82_49 : tgt 82 49 = B_82_49 := rfl
theorem T_82_81 : tgt 82 81 = B_82_81 := rfl
theorem T_82_112 : tgt 82 112 = B_82_112 := rfl
theorem R_82 (μ : Nat) (cs : List IR) (ls : LV) (h : MH) : rn 82 μ (.return_ :: cs) ls [] h = some (none, h) := by
  rw [rn_fix]; rfl
theorem C_83 (a : Nat) (x0 : Int32) (μ : Nat) (h : MH) (h1 : kd h a = 1) (h2 : 2 ≤ a) (hμ : 4 < μ) : cal 83 [.ref a, .int x0] μ h = rn 83 (4) B_83_0 [some (.ref a), some (.int x0)] [] h := cal_of ⟨hμ, show decide (kd h a = 1 ∧ 2 ≤ a ∧ 1 < 13) = true from decide_eq_true ⟨h1, h2, by decide⟩, rfl, by decide, Nat.le_of_ble_eq_true rfl⟩
theorem R_83 (μ : Nat) (cs : List IR) (ls : LV) (h : MH) : rn 83 μ (.return_ :: cs) ls [] h = some (none, h) := by
  rw [rn_fix]; rfl
theorem C_84 (a : Nat) (x0 : Int32) (μ : Nat) (h : MH) (h1 : kd h a = 1) (h2 : 2 ≤ a) (hμ : 3 < μ) : cal 84 [.ref a, .int x0] μ h = rn 84 (3) B_84_0 [some (.ref a), some (.int x0)] [] h := cal_of ⟨hμ, show decide (kd h a = 1 ∧ 2 ≤ a ∧ 1 < 13) = true from decide_eq_true ⟨h1, h2, by decide⟩, rfl, by decide, Nat.le_of_ble_eq_true rfl⟩
theorem T_84_38 : tgt 84 38 = B_84_38 := rfl
theorem R_84 (μ : Nat) (cs : List IR) (ls : LV) (h : MH) : rn 84 μ (.return_ :: cs) ls [] h = some (none, h) := by
  rw [rn_fix]; rfl
theorem C_85 (a : Nat) (x0 : Int32) (μ : Nat) (h : MH) (h1 : kd h a = 6) (h2 : 2 ≤ a) (hμ : mu 85 [.ref a, .int x0] < μ) : cal 85 [.ref a, .int x0] μ h = rn 85 (mu 85 [.ref a, .int x0]) B_85_0 [some (.ref a), some (.int x0), none, none] [] h := cal_of ⟨hμ, show decide (kd h a = 6 ∧ 2 ≤ a ∧ 6 < 13) = true from decide_eq_true ⟨h1, h2, by decide⟩, rfl, by decide, Nat.le_of_ble_eq_true rfl⟩
theorem T_85_7 : tgt 85 7 = B_85_7 := rfl
theorem T_85_32 : tgt 85 32 = B_85_32 := rfl
theorem T_85_69 : tgt 85 69 = B_85_69 := rfl
theorem R_85 (μ : Nat) (cs : List IR) (ls : LV) (h : MH) : rn 85 μ (.return_ :: cs) ls [] h = some (none, h) := by
  rw [rn_fix]; rfl
theorem C_86 (a : Nat) (x0 : Int32) (μ : Nat) (h : MH) (h1 : kd h a = 6) (h2 : 2 ≤ a) (hμ : mu 86 [.ref a, .int x0] < μ) : cal 86 [.ref a, .int x0] μ h = rn 86 (mu 86 [.ref a, .int x0]) B_86_0 [some (.ref a), some (.int x0), none, none] [] h := cal_of ⟨hμ, show decide (kd h a = 6 ∧ 2 ≤ a ∧ 6 < 13) = true from decide_eq_true ⟨h1, h2, by decide⟩, rfl, by decide, Nat.le_of_ble_eq_true rfl⟩
theorem T_86_7 : tgt 86 7 = B_86_7 := rfl
theorem T_86_41 : tgt 86 41 = B_86_41 := rfl
theorem T_86_78 : tgt 86 78 = B_86_78 := rfl
theorem R_86 (μ : Nat) (cs : List IR) (ls : LV) (h : MH) : rn 86 μ (.return_ :: cs) ls [] h = some (none, h) := by
  rw [rn_fix]; rfl
theorem C_87 (a : Nat) (x0 : Int32) (μ : Nat) (h : MH) (h1 : kd h a = 6) (h2 : 2 ≤ a) (hμ : mu 87 [.ref a, .int x0] < μ) : cal 87 [.ref a, .int x0] μ h = rn 87 (mu 87 [.ref a, .int x0]) B_87_0 [some (.ref a), some (.int x0)] [] h := cal_of ⟨hμ, show decide (kd h a = 6 ∧ 2 ≤ a ∧ 6 < 13) = true from decide_eq_true ⟨h1, h2, by decide⟩, rfl, by decide, Nat.le_of_ble_eq_true rfl⟩
theorem T_87_24 : tgt 87 24 = B_87_24 := rfl
theorem T_87_29 : tgt 87 29 = B_87_29 := rfl
theorem T_87_37 : tgt 87 37 = B_87_37 := rfl
theorem T_87_101 : tgt 87 101 = B_87_101 := rfl
theorem T_87_118 : tgt 87 118 = B_87_118 := rfl
theorem T_87_146 : tgt 87 146 = B_87_146 := rfl
theorem R_87 (μ : Nat) (cs : List IR) (ls : LV) (h : MH) : rn 87 μ (.return_ :: cs) ls [] h = some (none, h) := by
  rw [rn_fix]; rfl
theorem C_88 (a : Nat) (x0 : Int32) (μ : Nat) (h : MH) (h1 : kd h a = 1) (h2 : 2 ≤ a) (hμ : 4 < μ) : cal 88 [.ref a, .int x0] μ h = rn 88 (4) B_88_0 [some (.ref a), some (.int x0)] [] h := cal_of ⟨hμ, show decide (kd h a = 1 ∧ 2 ≤ a ∧ 1 < 13) = true from decide_eq_true ⟨h1, h2, by decide⟩, rfl, by decide, Nat.le_of_ble_eq_true rfl⟩
theorem R_88 (μ : Nat) (cs : List IR) (ls : LV) (h : MH) : rn 88 μ (.return_ :: cs) ls [] h = some (none, h) := by
  rw [rn_fix]; rfl
theorem C_89 (a : Nat) (x0 : Int32) (μ : Nat) (h : MH) (h1 : kd h a = 6) (h2 : 2 ≤ a) (hμ : 3 < μ) : cal 89 [.ref a, .int x0] μ h = rn 89 (3) B_89_0 [some (.ref a), some (.int x0)] [] h := cal_of ⟨hμ, show decide (kd h a = 6 ∧ 2 ≤ a ∧ 6 < 13) = true from decide_eq_true ⟨h1, h2, by decide⟩, rfl, by decide, Nat.le_of_ble_eq_true rfl⟩
theorem T_89_26 : tgt 89 26 = B_89_26 := rfl
theorem T_89_27 : tgt 89 27 = B_89_27 := rfl
theorem R_89 (μ : Nat) (cs : List IR) (ls : LV) (x : Int32) (h : MH) (hx : x = 0 ∨ x = 1) : rn 89 μ (.ireturn :: cs) ls [.int x] h = some (some (.int x), h) := rz_of (by decide +kernel) hx
theorem C_90 (a : Nat) (x0 : Int32) (μ : Nat) (h : MH) (h1 : kd h a = 6) (h2 : 2 ≤ a) (hμ : mu 90 [.ref a, .int x0] < μ) : cal 90 [.ref a, .int x0] μ h = rn 90 (mu 90 [.ref a, .int x0]) B_90_0 [some (.ref a), some (.int x0)] [] h := cal_of ⟨hμ, show decide (kd h a = 6 ∧ 2 ≤ a ∧ 6 < 13) = true from decide_eq_true ⟨h1, h2, by decide⟩, rfl, by decide, Nat.le_of_ble_eq_true rfl⟩
theorem T_90_12 : tgt 90 12 = B_90_12 := rfl
theorem T_90_40 : tgt 90 40 = B_90_40 := rfl
theorem R_90 (μ : Nat) (cs : List IR) (ls : LV) (h : MH) : rn 90 μ (.return_ :: cs) ls [] h = some (none, h) := by
  rw [rn_fix]; rfl
theorem C_91 (a : Nat) (x0 : Int32) (μ : Nat) (h : MH) (h1 : kd h a = 1) (h2 : 2 ≤ a) (hμ : 4 < μ) : cal 91 [.ref a, .int x0] μ h = rn 91 (4) B_91_0 [some (.ref a), some (.int x0)] [] h := cal_of ⟨hμ, show decide (kd h a = 1 ∧ 2 ≤ a ∧ 1 < 13) = true from decide_eq_true ⟨h1, h2, by decide⟩, rfl, by decide, Nat.le_of_ble_eq_true rfl⟩
theorem R_91 (μ : Nat) (cs : List IR) (ls : LV) (h : MH) : rn 91 μ (.return_ :: cs) ls [] h = some (none, h) := by
  rw [rn_fix]; rfl
theorem C_92 (a : Nat) (x0 : Int32) (μ : Nat) (h : MH) (h1 : kd h a = 1) (h2 : 2 ≤ a) (hμ : 3 < μ) : cal 92 [.ref a, .int x0] μ h = rn 92 (3) B_92_0 [some (.ref a), some (.int x0)] [] h := cal_of ⟨hμ, show decide (kd h a = 1 ∧ 2 ≤ a ∧ 1 < 13) = true from decide_eq_true ⟨h1, h2, by decide⟩, rfl, by decide, Nat.le_of_ble_eq_true rfl⟩
theorem T_92_20 : tgt 92 20 = B_92_20 := rfl
theorem R_92 (μ : Nat) (cs : List IR) (ls : LV) (h : MH) : rn 92 μ (.return_ :: cs) ls [] h = some (none, h) := by
  rw [rn_fix]; rfl
theorem C_93 (a : Nat) (x0 : Int32) (μ : Nat) (h : MH) (h1 : kd h a = 6) (h2 : 2 ≤ a) (hμ : 6 < μ) : cal 93 [.ref a, .int x0] μ h = rn 93 (6) B_93_0 [some (.ref a), some (.int x0)] [] h := cal_of ⟨hμ, show decide (kd h a = 6 ∧ 2 ≤ a ∧ 6 < 13) = true from decide_eq_true ⟨h1, h2, by decide⟩, rfl, by decide, Nat.le_of_ble_eq_true rfl⟩
theorem T_93_14 : tgt 93 14 = B_93_14 := rfl
theorem R_93 (μ : Nat) (cs : List IR) (ls : LV) (h : MH) : rn 93 μ (.return_ :: cs) ls [] h = some (none, h) := by
  rw [rn_fix]; rfl
theorem C_94 (a : Nat) (x0 : Int32) (μ : Nat) (h : MH) (h1 : kd h a = 6) (h2 : 2 ≤ a) (hμ : 6 < μ) : cal 94 [.ref a, .int x0] μ h = rn 94 (6) B_94_0 [some (.ref a), some (.int x0)] [] h := cal_of ⟨hμ, show decide (kd h a = 6 ∧ 2 ≤ a ∧ 6 < 13) = true from decide_eq_true ⟨h1, h2, by decide⟩, rfl, by decide, Nat.le_of_ble_eq_true rfl⟩
theorem T_94_13 : tgt 94 13 = B_94_13 := rfl
theorem R_94 (μ : Nat) (cs : List IR) (ls : LV) (h : MH) : rn 94 μ (.return_ :: cs) ls [] h = some (none, h) := by
  rw [rn_fix]; rfl
theorem C_95 (a : Nat) (x0 : Int32) (μ : Nat) (h : MH) (h1 : kd h a = 11) (h2 : 2 ≤ a) (hμ : 3 < μ) : cal 95 [.ref a, .int x0] μ h = rn 95 (3) B_95_0 [some (.ref a), some (.int x0)] [] h := cal_of ⟨hμ, show decide (kd h a = 11 ∧ 2 ≤ a ∧ 11 < 13) = true from decide_eq_true ⟨h1, h2, by decide⟩, rfl, by decide, Nat.le_of_ble_eq_true rfl⟩
theorem T_95_12 : tgt 95 12 = B_95_12 := rfl
theorem T_95_27 : tgt 95 27 = B_95_27 := rfl
theorem T_95_28 : tgt 95 28 = B_95_28 := rfl
theorem R_95 (μ : Nat) (cs : List IR) (ls : LV) (x : Int32) (h : MH) : rn 95 μ (.ireturn :: cs) ls [.int x] h = some (some (.int x), h) := by
  rw [rn_fix]; rfl
theorem C_96 (a : Nat) (x0 : Int32) (x1 : Int32) (μ : Nat) (h : MH) (h1 : kd h a = 11) (h2 : 2 ≤ a) (hμ : 5 < μ) : cal 96 [.ref a, .int x0, .int x1] μ h = rn 96 (5) B_96_0 [some (.ref a), some (.int x0), some (.int x1)] [] h := cal_of ⟨hμ, show decide (kd h a = 11 ∧ 2 ≤ a ∧ 11 < 13) = true from decide_eq_true ⟨h1, h2, by decide⟩, rfl, by decide, Nat.le_of_ble_eq_true rfl⟩
theorem T_96_25 : tgt 96 25 = B_96_25 := rfl
theorem T_96_27 : tgt 96 27 = B_96_27 := rfl
theorem R_96 (μ : Nat) (cs : List IR) (ls : LV) (x : Int32) (h : MH) : rn 96 μ (.ireturn :: cs) ls [.int x] h = some (some (.int x), h) := by
  rw [rn_fix]; rfl
theorem C_97 (a : Nat) (x0 : Int32) (μ : Nat) (h : MH) (h1 : kd h a = 0) (h2 : 2 ≤ a) (hμ : 3 < μ) : cal 97 [.ref a, .int x0] μ h = rn 97 (3) B_97_0 [some (.ref a), some (.int x0)] [] h := cal_of ⟨hμ, show decide (kd h a = 0 ∧ 2 ≤ a ∧ 0 < 13) = true from decide_eq_true ⟨h1, h2, by decide⟩, rfl, by decide, Nat.le_of_ble_eq_true rfl⟩
theorem T_97_16 : tgt 97 16 = B_97_16 := rfl
theorem T_97_17 : tgt 97 17 = B_97_17 := rfl
theorem R_97 (μ : Nat) (cs : List IR) (ls : LV) (x : Int32) (h : MH) (hx : x = 0 ∨ x = 1) : rn 97 μ (.ireturn :: cs) ls [.int x] h = some (some (.int x), h) := rz_of (by decide +kernel) hx
theorem C_98 (a : Nat) (x0 : Int32) (x1 : Int32) (μ : Nat) (h : MH) (h1 : kd h a = 11) (h2 : 2 ≤ a) (hμ : 6 < μ) : cal 98 [.ref a, .int x0, .int x1] μ h = rn 98 (6) B_98_0 [some (.ref a), some (.int x0), some (.int x1)] [] h := cal_of ⟨hμ, show decide (kd h a = 11 ∧ 2 ≤ a ∧ 11 < 13) = true from decide_eq_true ⟨h1, h2, by decide⟩, rfl, by decide, Nat.le_of_ble_eq_true rfl⟩
theorem T_98_17 : tgt 98 17 = B_98_17 := rfl
theorem T_98_56 : tgt 98 56 = B_98_56 := rfl
theorem T_98_66 : tgt 98 66 = B_98_66 := rfl
theorem T_98_76 : tgt 98 76 = B_98_76 := rfl
theorem T_98_88 : tgt 98 88 = B_98_88 := rfl
theorem T_98_100 : tgt 98 100 = B_98_100 := rfl
theorem T_98_109 : tgt 98 109 = B_98_109 := rfl
theorem T_98_118 : tgt 98 118 = B_98_118 := rfl
theorem R_98 (μ : Nat) (cs : List IR) (ls : LV) (x : Int32) (h : MH) : rn 98 μ (.ireturn :: cs) ls [.int x] h = some (some (.int x), h) := by
  rw [rn_fix]; rfl
theorem C_99 (a : Nat) (μ : Nat) (h : MH) (h1 : kd h a = 8) (h2 : 2 ≤ a) (hμ : 4 < μ) : cal 99 [.ref a] μ h = rn 99 (4) B_99_0 [some (.ref a)] [] h := cal_of ⟨hμ, show decide (kd h a = 8 ∧ 2 ≤ a ∧ 8 < 13) = true from decide_eq_true ⟨h1, h2, by decide⟩, rfl, by decide, Nat.le_of_ble_eq_true rfl⟩
theorem R_99 (μ : Nat) (cs : List IR) (ls : LV) (x : Int32) (h : MH) : rn 99 μ (.ireturn :: cs) ls [.int x] h = some (some (.int x), h) := by
  rw [rn_fix]; rfl
theorem C_100 (a : Nat) (x0 : Int32) (μ : Nat) (h : MH) (h1 : kd h a = 8) (h2 : 2 ≤ a) (hμ : 3 < μ) : cal 100 [.ref a, .int x0] μ h = rn 100 (3) B_100_0 [some (.ref a), some (.int x0), none] [] h := cal_of ⟨hμ, show decide (kd h a = 8 ∧ 2 ≤ a ∧ 8 < 13) = true from decide_eq_true ⟨h1, h2, by decide⟩, rfl, by decide, Nat.le_of_ble_eq_true rfl⟩
theorem T_100_32 : tgt 100 32 = B_100_32 := rfl
theorem T_100_33 : tgt 100 33 = B_100_33 := rfl
theorem R_100 (μ : Nat) (cs : List IR) (ls : LV) (x : Int32) (h : MH) : rn 100 μ (.ireturn :: cs) ls [.int x] h = some (some (.int x), h) := by
  rw [rn_fix]; rfl
theorem C_101 (a : Nat) (μ : Nat) (h : MH) (h1 : kd h a = 8) (h2 : 2 ≤ a) (hμ : 5 < μ) : cal 101 [.ref a] μ h = rn 101 (5) B_101_0 [some (.ref a), none, none, none, none] [] h := cal_of ⟨hμ, show decide (kd h a = 8 ∧ 2 ≤ a ∧ 8 < 13) = true from decide_eq_true ⟨h1, h2, by decide⟩, rfl, by decide, Nat.le_of_ble_eq_true rfl⟩
theorem T_101_15 : tgt 101 15 = B_101_15 := rfl
theorem T_101_50 : tgt 101 50 = B_101_50 := rfl
theorem T_101_56 : tgt 101 56 = B_101_56 := rfl
theorem R_101 (μ : Nat) (cs : List IR) (ls : LV) (x : Int32) (h : MH) : rn 101 μ (.ireturn :: cs) ls [.int x] h = some (some (.int x), h) := by
  rw [rn_fix]; rfl
theorem C_102 (a : Nat) (μ : Nat) (h : MH) (h1 : kd h a = 8) (h2 : 2 ≤ a) (hμ : 4 < μ) : cal 102 [.ref a] μ h = rn 102 (4) B_102_0 [some (.ref a)] [] h := cal_of ⟨hμ, show decide (kd h a = 8 ∧ 2 ≤ a ∧ 8 < 13) = true from decide_eq_true ⟨h1, h2, by decide⟩, rfl, by decide, Nat.le_of_ble_eq_true rfl⟩
theorem R_102 (μ : Nat) (cs : List IR) (ls : LV) (x : Int32) (h : MH) : rn 102 μ (.ireturn :: cs) ls [.int x] h = some (some (.int x), h) := by
  rw [rn_fix]; rfl
theorem C_103 (a : Nat) (x0 : Int32) (μ : Nat) (h : MH) (h1 : kd h a = 8) (h2 : 2 ≤ a) (hμ : 4 < μ) : cal 103 [.ref a, .int x0] μ h = rn 103 (4) B_103_0 [some (.ref a), some (.int x0)] [] h := cal_of ⟨hμ, show decide (kd h a = 8 ∧ 2 ≤ a ∧ 8 < 13) = true from decide_eq_true ⟨h1, h2, by decide⟩, rfl, by decide, Nat.le_of_ble_eq_true rfl⟩
theorem T_103_17 : tgt 103 17 = B_103_17 := rfl
theorem T_103_18 : tgt 103 18 = B_103_18 := rfl
theorem R_103 (μ : Nat) (cs : List IR) (ls : LV) (x : Int32) (h : MH) : rn 103 μ (.ireturn :: cs) ls [.int x] h = some (some (.int x), h) := by
  rw [rn_fix]; rfl
theorem C_104 (x0 : Int32) (μ : Nat) (h : MH)  (hμ : 3 < μ) : cal 104 [.int x0] μ h = rn 104 (3) B_104_0 [some (.int x0)] [] h := cal_of ⟨hμ, rfl, rfl, by decide, Nat.le_of_ble_eq_true rfl⟩
theorem T_104_14 : tgt 104 14 = B_104_14 := rfl
theorem T_104_15 : tgt 104 15 = B_104_15 := rfl
theorem R_104 (μ : Nat) (cs : List IR) (ls : LV) (x : Int32) (h : MH) (hx : x = 0 ∨ x = 1) : rn 104 μ (.ireturn :: cs) ls [.int x] h = some (some (.int x), h) := rz_of (by decide +kernel) hx
theorem C_105 (a : Nat) (x0 : Int32) (μ : Nat) (h : MH) (h1 : kd h a = 8) (h2 : 2 ≤ a) (hμ : 4 < μ) : cal 105 [.ref a, .int x0] μ h = rn 105 (4) B_105_0 [some (.ref a), some (.int x0)] [] h := cal_of ⟨hμ, show decide (kd h a = 8 ∧ 2 ≤ a ∧ 8 < 13) = true from decide_eq_true ⟨h1, h2, by decide⟩, rfl, by decide, Nat.le_of_ble_eq_true rfl⟩
theorem T_105_18 : tgt 105 18 = B_105_18 := rfl
theorem T_105_19 : tgt 105 19 = B_105_19 := rfl
theorem R_105 (μ : Nat) (cs : List IR) (ls : LV) (x : Int32) (h : MH) : rn 105 μ (.ireturn :: cs) ls [.int x] h = some (some (.int x), h) := by
  rw [rn_fix]; rfl
theorem C_106 (a : Nat) (x0 : Int32) (x1 : Int32) (μ : Nat) (h : MH) (h1 : kd h a = 11) (h2 : 2 ≤ a) (hμ : 4 < μ) : cal 106 [.ref a, .int x0, .int x1] μ h = rn 106 (4) B_106_0 [some (.ref a), some (.int x0), some (.int x1)] [] h := cal_of ⟨hμ, show decide (kd h a = 11 ∧ 2 ≤ a ∧ 11 < 13) = true from decide_eq_true ⟨h1, h2, by decide⟩, rfl, by decide, Nat.le_of_ble_eq_true rfl⟩
theorem T_106_25 : tgt 106 25 = B_106_25 := rfl
theorem T_106_27 : tgt 106 27 = B_106_27 := rfl
theorem R_106 (μ : Nat) (cs : List IR) (ls : LV) (x : Int32) (h : MH) : rn 106 μ (.ireturn :: cs) ls [.int x] h = some (some (.int x), h) := by
  rw [rn_fix]; rfl
theorem C_107 (a : Nat) (x0 : Int32) (x1 : Int32) (μ : Nat) (h : MH) (h1 : kd h a = 11) (h2 : 2 ≤ a) (hμ : 4 < μ) : cal 107 [.ref a, .int x0, .int x1] μ h = rn 107 (4) B_107_0 [some (.ref a), some (.int x0), some (.int x1)] [] h := cal_of ⟨hμ, show decide (kd h a = 11 ∧ 2 ≤ a ∧ 11 < 13) = true from decide_eq_true ⟨h1, h2, by decide⟩, rfl, by decide, Nat.le_of_ble_eq_true rfl⟩
theorem T_107_28 : tgt 107 28 = B_107_28 := rfl
theorem T_107_30 : tgt 107 30 = B_107_30 := rfl
theorem R_107 (μ : Nat) (cs : List IR) (ls : LV) (x : Int32) (h : MH) : rn 107 μ (.ireturn :: cs) ls [.int x] h = some (some (.int x), h) := by
  rw [rn_fix]; rfl
theorem C_108 (a : Nat) (x0 : Int32) (μ : Nat) (h : MH) (h1 : kd h a = 0) (h2 : 2 ≤ a) (hμ : 3 < μ) : cal 108 [.ref a, .int x0] μ h = rn 108 (3) B_108_0 [some (.ref a), some (.int x0)] [] h := cal_of ⟨hμ, show decide (kd h a = 0 ∧ 2 ≤ a ∧ 0 < 13) = true from decide_eq_true ⟨h1, h2, by decide⟩, rfl, by decide, Nat.le_of_ble_eq_true rfl⟩
theorem T_108_19 : tgt 108 19 = B_108_19 := rfl
theorem T_108_20 : tgt 108 20 = B_108_20 := rfl
theorem R_108 (μ : Nat) (cs : List IR) (ls : LV) (x : Int32) (h : MH) : rn 108 μ (.ireturn :: cs) ls [.int x] h = some (some (.int x), h) := by
  rw [rn_fix]; rfl
theorem C_109 (a : Nat) (x0 : Int32) (μ : Nat) (h : MH) (h1 : kd h a = 11) (h2 : 2 ≤ a) (hμ : 4 < μ) : cal 109 [.ref a, .int x0] μ h = rn 109 (4) B_109_0 [some (.ref a), some (.int x0), none, none] [] h := cal_of ⟨hμ, show decide (kd h a = 11 ∧ 2 ≤ a ∧ 11 < 13) = true from decide_eq_true ⟨h1, h2, by decide⟩, rfl, by decide, Nat.le_of_ble_eq_true rfl⟩
theorem T_109_16 : tgt 109 16 = B_109_16 := rfl
theorem T_109_20 : tgt 109 20 = B_109_20 := rfl
theorem T_109_52 : tgt 109 52 = B_109_52 := rfl
theorem R_109 (μ : Nat) (cs : List IR) (ls : LV) (x : Int32) (h : MH) : rn 109 μ (.ireturn :: cs) ls [.int x] h = some (some (.int x), h) := by
  rw [rn_fix]; rfl
theorem C_110 (a : Nat) (x0 : Int32) (x1 : Int32) (μ : Nat) (h : MH) (h1 : kd h a = 11) (h2 : 2 ≤ a) (hμ : 6 < μ) : cal 110 [.ref a, .int x0, .int x1] μ h = rn 110 (6) B_110_0 [some (.ref a), some (.int x0), some (.int x1)] [] h := cal_of ⟨hμ, show decide (kd h a = 11 ∧ 2 ≤ a ∧ 11 < 13) = true from decide_eq_true ⟨h1, h2, by decide⟩, rfl, by decide, Nat.le_of_ble_eq_true rfl⟩
theorem T_110_25 : tgt 110 25 = B_110_25 := rfl
theorem T_110_28 : tgt 110 28 = B_110_28 := rfl
theorem R_110 (μ : Nat) (cs : List IR) (ls : LV) (x : Int32) (h : MH) : rn 110 μ (.ireturn :: cs) ls [.int x] h = some (some (.int x), h) := by
  rw [rn_fix]; rfl
theorem C_111 (a : Nat) (x0 : Int32) (x1 : Int32) (x2 : Int32) (μ : Nat) (h : MH) (h1 : kd h a = 0) (h2 : 2 ≤ a) (hμ : 5 < μ) : cal 111 [.ref a, .int x0, .int x1, .int x2] μ h = rn 111 (5) B_111_0 [some (.ref a), some (.int x0), some (.int x1), some (.int x2)] [] h := cal_of ⟨hμ, show decide (kd h a = 0 ∧ 2 ≤ a ∧ 0 < 13) = true from decide_eq_true ⟨h1, h2, by decide⟩, rfl, by decide, Nat.le_of_ble_eq_true rfl⟩
theorem R_111 (μ : Nat) (cs : List IR) (ls : LV) (x : Int32) (h : MH) : rn 111 μ (.ireturn :: cs) ls [.int x] h = some (some (.int x), h) := by
  rw [rn_fix]; rfl
theorem C_112 (a : Nat) (x0 : Int32) (μ : Nat) (h : MH) (h1 : kd h a = 0) (h2 : 2 ≤ a) (hμ : 3 < μ) : cal 112 [.ref a, .int x0] μ h = rn 112 (3) B_112_0 [some (.ref a), some (.int x0)] [] h := cal_of ⟨hμ, show decide (kd h a = 0 ∧ 2 ≤ a ∧ 0 < 13) = true from decide_eq_true ⟨h1, h2, by decide⟩, rfl, by decide, Nat.le_of_ble_eq_true rfl⟩
theorem T_112_21 : tgt 112 21 = B_112_21 := rfl
theorem T_112_22 : tgt 112 22 = B_112_22 := rfl
theorem R_112 (μ : Nat) (cs : List IR) (ls : LV) (x : Int32) (h : MH) : rn 112 μ (.ireturn :: cs) ls [.int x] h = some (some (.int x), h) := by
  rw [rn_fix]; rfl
theorem C_113 (a : Nat) (x0 : Int32) (μ : Nat) (h : MH) (h1 : kd h a = 0) (h2 : 2 ≤ a) (hμ : 4 < μ) : cal 113 [.ref a, .int x0] μ h = rn 113 (4) B_113_0 [some (.ref a), some (.int x0)] [] h := cal_of ⟨hμ, show decide (kd h a = 0 ∧ 2 ≤ a ∧ 0 < 13) = true from decide_eq_true ⟨h1, h2, by decide⟩, rfl, by decide, Nat.le_of_ble_eq_true rfl⟩
theorem T_113_11 : tgt 113 11 = B_113_11 := rfl
theorem T_113_13 : tgt 113 13 = B_113_13 := rfl
theorem T_113_36 : tgt 113 36 = B_113_36 := rfl
theorem R_113 (μ : Nat) (cs : List IR) (ls : LV) (x : Int32) (h : MH) : rn 113 μ (.ireturn :: cs) ls [.int x] h = some (some (.int x), h) := by
  rw [rn_fix]; rfl
theorem C_114 (a : Nat) (x0 : Int32) (μ : Nat) (h : MH) (h1 : kd h a = 0) (h2 : 2 ≤ a) (hμ : 3 < μ) : cal 114 [.ref a, .int x0] μ h = rn 114 (3) B_114_0 [some (.ref a), some (.int x0), none, none, none] [] h := cal_of ⟨hμ, show decide (kd h a = 0 ∧ 2 ≤ a ∧ 0 < 13) = true from decide_eq_true ⟨h1, h2, by decide⟩, rfl, by decide, Nat.le_of_ble_eq_true rfl⟩
theorem T_114_4 : tgt 114 4 = B_114_4 := rfl
theorem T_114_54 : tgt 114 54 = B_114_54 := rfl
theorem T_114_57 : tgt 114 57 = B_114_57 := rfl
theorem T_114_63 : tgt 114 63 = B_114_63 := rfl
theorem R_114 (μ : Nat) (cs : List IR) (ls : LV) (x : Int32) (h : MH) : rn 114 μ (.ireturn :: cs) ls [.int x] h = some (some (.int x), h) := by
  rw [rn_fix]; rfl
theorem C_115 (a : Nat) (x0 : Int32) (x1 : Int32) (μ : Nat) (h : MH) (h1 : kd h a = 11) (h2 : 2 ≤ a) (hμ : 6 < μ) : cal 115 [.ref a, .int x0, .int x1] μ h = rn 115 (6) B_115_0 [some (.ref a), some (.int x0), some (.int x1), none, none, none] [] h := cal_of ⟨hμ, show decide (kd h a = 11 ∧ 2 ≤ a ∧ 11 < 13) = true from decide_eq_true ⟨h1, h2, by decide⟩, rfl, by decide, Nat.le_of_ble_eq_true rfl⟩
theorem T_115_23 : tgt 115 23 = B_115_23 := rfl
theorem T_115_25 : tgt 115 25 = B_115_25 := rfl
theorem T_115_39 : tgt 115 39 = B_115_39 := rfl
theorem T_115_72 : tgt 115 72 = B_115_72 := rfl
theorem T_115_78 : tgt 115 78 = B_115_78 := rfl
theorem R_115 (μ : Nat) (cs : List IR) (ls : LV) (x : Int32) (h : MH) : rn 115 μ (.ireturn :: cs) ls [.int x] h = some (some (.int x), h) := by
  rw [rn_fix]; rfl
theorem C_116 (x0 : Int32) (μ : Nat) (h : MH)  (hμ : 3 < μ) : cal 116 [.int x0] μ h = rn 116 (3) B_116_0 [some (.int x0)] [] h := cal_of ⟨hμ, rfl, rfl, by decide, Nat.le_of_ble_eq_true rfl⟩
theorem T_116_8 : tgt 116 8 = B_116_8 := rfl
theorem T_116_10 : tgt 116 10 = B_116_10 := rfl
theorem R_116 (μ : Nat) (cs : List IR) (ls : LV) (x : Int32) (h : MH) : rn 116 μ (.ireturn :: cs) ls [.int x] h = some (some (.int x), h) := by
  rw [rn_fix]; rfl
theorem C_117 (a : Nat) (x0 : Int32) (x1 : Int32) (μ : Nat) (h : MH) (h1 : kd h a = 11) (h2 : 2 ≤ a) (hμ : 6 < μ) : cal 117 [.ref a, .int x0, .int x1] μ h = rn 117 (6) B_117_0 [some (.ref a), some (.int x0), some (.int x1), none, none] [] h := cal_of ⟨hμ, show decide (kd h a = 11 ∧ 2 ≤ a ∧ 11 < 13) = true from decide_eq_true ⟨h1, h2, by decide⟩, rfl, by decide, Nat.le_of_ble_eq_true rfl⟩
theorem T_117_16 : tgt 117 16 = B_117_16 := rfl
theorem T_117_27 : tgt 117 27 = B_117_27 := rfl
theorem T_117_60 : tgt 117 60 = B_117_60 := rfl
theorem T_117_66 : tgt 117 66 = B_117_66 := rfl
theorem R_117 (μ : Nat) (cs : List IR) (ls : LV) (x : Int32) (h : MH) : rn 117 μ (.ireturn :: cs) ls [.int x] h = some (some (.int x), h) := by
  rw [rn_fix]; rfl
theorem C_118 (a : Nat) (x0 : Int32) (x1 : Int32) (μ : Nat) (h : MH) (h1 : kd h a = 11) (h2 : 2 ≤ a) (hμ : 5 < μ) : cal 118 [.ref a, .int x0, .int x1] μ h = rn 118 (5) B_118_0 [some (.ref a), some (.int x0), some (.int x1), none, none] [] h := cal_of ⟨hμ, show decide (kd h a = 11 ∧ 2 ≤ a ∧ 11 < 13) = true from decide_eq_true ⟨h1, h2, by decide⟩, rfl, by decide, Nat.le_of_ble_eq_true rfl⟩
theorem T_118_23 : tgt 118 23 = B_118_23 := rfl
theorem T_118_25 : tgt 118 25 = B_118_25 := rfl
theorem T_118_49 : tgt 118 49 = B_118_49 := rfl
theorem T_118_58 : tgt 118 58 = B_118_58 := rfl
theorem T_118_69 : tgt 118 69 = B_118_69 := rfl
theorem T_118_70 : tgt 118 70 = B_118_70 := rfl
theorem R_118 (μ : Nat) (cs : List IR) (ls : LV) (x : Int32) (h : MH) : rn 118 μ (.ireturn :: cs) ls [.int x] h = some (some (.int x), h) := by
  rw [rn_fix]; rfl
theorem C_119 (a : Nat) (x0 : Int32) (x1 : Int32) (μ : Nat) (h : MH) (h1 : kd h a = 5) (h2 : 2 ≤ a) (hμ : 4 < μ) : cal 119 [.ref a, .int x0, .int x1] μ h = rn 119 (4) B_119_0 [some (.ref a), some (.int x0), some (.int x1)] [] h := cal_of ⟨hμ, show decide (kd h a = 5 ∧ 2 ≤ a ∧ 5 < 13) = true from decide_eq_true ⟨h1, h2, by decide⟩, rfl, by decide, Nat.le_of_ble_eq_true rfl⟩
theorem T_119_19 : tgt 119 19 = B_119_19 := rfl
theorem T_119_21 : tgt 119 21 = B_119_21 := rfl
theorem T_119_59 : tgt 119 59 = B_119_59 := rfl
theorem T_119_60 : tgt 119 60 = B_119_60 := rfl
theorem R_119 (μ : Nat) (cs : List IR) (ls : LV) (x : Int32) (h : MH) (hx : x = 0 ∨ x = 1) : rn 119 μ (.ireturn :: cs) ls [.int x] h = some (some (.int x), h) := rz_of (by decide +kernel) hx
theorem C_120 (a : Nat) (x0 : Int32) (x1 : Int32) (μ : Nat) (h : MH) (h1 : kd h a = 5) (h2 : 2 ≤ a) (hμ : 4 < μ) : cal 120 [.ref a, .int x0, .int x1] μ h = rn 120 (4) B_120_0 [some (.ref a), some (.int x0), some (.int x1)] [] h := cal_of ⟨hμ, show decide (kd h a = 5 ∧ 2 ≤ a ∧ 5 < 13) = true from decide_eq_true ⟨h1, h2, by decide⟩, rfl, by decide, Nat.le_of_ble_eq_true rfl⟩
theorem T_120_34 : tgt 120 34 = B_120_34 := rfl
theorem T_120_35 : tgt 120 35 = B_120_35 := rfl
theorem R_120 (μ : Nat) (cs : List IR) (ls : LV) (x : Int32) (h : MH) (hx : x = 0 ∨ x = 1) : rn 120 μ (.ireturn :: cs) ls [.int x] h = some (some (.int x), h) := rz_of (by decide +kernel) hx
theorem C_121 (a : Nat) (x0 : Int32) (μ : Nat) (h : MH) (h1 : kd h a = 11) (h2 : 2 ≤ a) (hμ : 7 < μ) : cal 121 [.ref a, .int x0] μ h = rn 121 (7) B_121_0 [some (.ref a), some (.int x0)] [] h := cal_of ⟨hμ, show decide (kd h a = 11 ∧ 2 ≤ a ∧ 11 < 13) = true from decide_eq_true ⟨h1, h2, by decide⟩, rfl, by decide, Nat.le_of_ble_eq_true rfl⟩
theorem T_121_32 : tgt 121 32 = B_121_32 := rfl
theorem T_121_34 : tgt 121 34 = B_121_34 := rfl
theorem R_121 (μ : Nat) (cs : List IR) (ls : LV) (x : Int32) (h : MH) : rn 121 μ (.ireturn :: cs) ls [.int x] h = some (some (.int x), h) := by
  rw [rn_fix]; rfl
theorem C_122 (a : Nat) (x0 : Int32) (μ : Nat) (h : MH) (h1 : kd h a = 8) (h2 : 2 ≤ a) (hμ : 6 < μ) : cal 122 [.ref a, .int x0] μ h = rn 122 (6) B_122_0 [some (.ref a), some (.int x0)] [] h := cal_of ⟨hμ, show decide (kd h a = 8 ∧ 2 ≤ a ∧ 8 < 13) = true from decide_eq_true ⟨h1, h2, by decide⟩, rfl, by decide, Nat.le_of_ble_eq_true rfl⟩
theorem R_122 (μ : Nat) (cs : List IR) (ls : LV) (h : MH) : rn 122 μ (.return_ :: cs) ls [] h = some (none, h) := by
  rw [rn_fix]; rfl
theorem C_123 (a : Nat) (μ : Nat) (h : MH) (h1 : kd h a = 8) (h2 : 2 ≤ a) (hμ : 4 < μ) : cal 123 [.ref a] μ h = rn 123 (4) B_123_0 [some (.ref a), none] [] h := cal_of ⟨hμ, show decide (kd h a = 8 ∧ 2 ≤ a ∧ 8 < 13) = true from decide_eq_true ⟨h1, h2, by decide⟩, rfl, by decide, Nat.le_of_ble_eq_true rfl⟩
theorem R_123 (μ : Nat) (cs : List IR) (ls : LV) (h : MH) : rn 123 μ (.return_ :: cs) ls [] h = some (none, h) := by
  rw [rn_fix]; rfl
theorem C_124 (a : Nat) (x0 : Int32) (x1 : Int32) (μ : Nat) (h : MH) (h1 : kd h a = 8) (h2 : 2 ≤ a) (hμ : 3 < μ) : cal 124 [.ref a, .int x0, .int x1] μ h = rn 124 (3) B_124_0 [some (.ref a), some (.int x0), some (.int x1)] [] h := cal_of ⟨hμ, show decide (kd h a = 8 ∧ 2 ≤ a ∧ 8 < 13) = true from decide_eq_true ⟨h1, h2, by decide⟩, rfl, by decide, Nat.le_of_ble_eq_true rfl⟩
theorem T_124_41 : tgt 124 41 = B_124_41 := rfl
theorem R_124 (μ : Nat) (cs : List IR) (ls : LV) (h : MH) : rn 124 μ (.return_ :: cs) ls [] h = some (none, h) := by
  rw [rn_fix]; rfl
theorem C_125 (x0 : Int32) (x1 : Int32) (μ : Nat) (h : MH)  (hμ : 3 < μ) : cal 125 [.int x0, .int x1] μ h = rn 125 (3) B_125_0 [some (.int x0), some (.int x1)] [] h := cal_of ⟨hμ, rfl, rfl, by decide, Nat.le_of_ble_eq_true rfl⟩
theorem T_125_9 : tgt 125 9 = B_125_9 := rfl
theorem T_125_10 : tgt 125 10 = B_125_10 := rfl
theorem R_125 (μ : Nat) (cs : List IR) (ls : LV) (x : Int32) (h : MH) : rn 125 μ (.ireturn :: cs) ls [.int x] h = some (some (.int x), h) := by
  rw [rn_fix]; rfl
theorem C_126 (a : Nat) (x0 : Int32) (x1 : Int32) (μ : Nat) (h : MH) (h1 : kd h a = 8) (h2 : 2 ≤ a) (hμ : 5 < μ) : cal 126 [.ref a, .int x0, .int x1] μ h = rn 126 (5) B_126_0 [some (.ref a), some (.int x0), some (.int x1)] [] h := cal_of ⟨hμ, show decide (kd h a = 8 ∧ 2 ≤ a ∧ 8 < 13) = true from decide_eq_true ⟨h1, h2, by decide⟩, rfl, by decide, Nat.le_of_ble_eq_true rfl⟩
theorem T_126_28 : tgt 126 28 = B_126_28 := rfl
theorem R_126 (μ : Nat) (cs : List IR) (ls : LV) (h : MH) : rn 126 μ (.return_ :: cs) ls [] h = some (none, h) := by
  rw [rn_fix]; rfl
theorem C_127 (a : Nat) (x0 : Int32) (μ : Nat) (h : MH) (h1 : kd h a = 11) (h2 : 2 ≤ a) (hμ : 7 < μ) : cal 127 [.ref a, .int x0] μ h = rn 127 (7) B_127_0 [some (.ref a), some (.int x0)] [] h := cal_of ⟨hμ, show decide (kd h a = 11 ∧ 2 ≤ a ∧ 11 < 13) = true from decide_eq_true ⟨h1, h2, by decide⟩, rfl, by decide, Nat.le_of_ble_eq_true rfl⟩
theorem T_127_32 : tgt 127 32 = B_127_32 := rfl
theorem T_127_34 : tgt 127 34 = B_127_34 := rfl
theorem R_127 (μ : Nat) (cs : List IR) (ls : LV) (x : Int32) (h : MH) (hx : x = 0 ∨ x = 1) : rn 127 μ (.ireturn :: cs) ls [.int x] h = some (some (.int x), h) := rz_of (by decide +kernel) hx
theorem C_128 (a : Nat) (x0 : Int32) (μ : Nat) (h : MH) (h1 : kd h a = 8) (h2 : 2 ≤ a) (hμ : 6 < μ) : cal 128 [.ref a, .int x0] μ h = rn 128 (6) B_128_0 [some (.ref a), some (.int x0)] [] h := cal_of ⟨hμ, show decide (kd h a = 8 ∧ 2 ≤ a ∧ 8 < 13) = true from decide_eq_true ⟨h1, h2, by decide⟩, rfl, by decide, Nat.le_of_ble_eq_true rfl⟩
theorem T_128_20 : tgt 128 20 = B_128_20 := rfl
theorem T_128_32 : tgt 128 32 = B_128_32 := rfl
theorem R_128 (μ : Nat) (cs : List IR) (ls : LV) (h : MH) : rn 128 μ (.return_ :: cs) ls [] h = some (none, h) := by
  rw [rn_fix]; rfl
theorem C_129 (a : Nat) (x0 : Int32) (x1 : Int32) (μ : Nat) (h : MH) (h1 : kd h a = 8) (h2 : 2 ≤ a) (hμ : 5 < μ) : cal 129 [.ref a, .int x0, .int x1] μ h = rn 129 (5) B_129_0 [some (.ref a), some (.int x0), some (.int x1)] [] h := cal_of ⟨hμ, show decide (kd h a = 8 ∧ 2 ≤ a ∧ 8 < 13) = true from decide_eq_true ⟨h1, h2, by decide⟩, rfl, by decide, Nat.le_of_ble_eq_true rfl⟩
theorem T_129_39 : tgt 129 39 = B_129_39 := rfl
theorem R_129 (μ : Nat) (cs : List IR) (ls : LV) (h : MH) : rn 129 μ (.return_ :: cs) ls [] h = some (none, h) := by
  rw [rn_fix]; rfl
theorem C_130 (a : Nat) (μ : Nat) (h : MH) (h1 : kd h a = 11) (h2 : 2 ≤ a) (hμ : 7 < μ) : cal 130 [.ref a] μ h = rn 130 (7) B_130_0 [some (.ref a)] [] h := cal_of ⟨hμ, show decide (kd h a = 11 ∧ 2 ≤ a ∧ 11 < 13) = true from decide_eq_true ⟨h1, h2, by decide⟩, rfl, by decide, Nat.le_of_ble_eq_true rfl⟩
theorem T_130_20 : tgt 130 20 = B_130_20 := rfl
theorem T_130_21 : tgt 130 21 = B_130_21 := rfl
theorem R_130 (μ : Nat) (cs : List IR) (ls : LV) (x : Int32) (h : MH) : rn 130 μ (.ireturn :: cs) ls [.int x] h = some (some (.int x), h) := by
  rw [rn_fix]; rfl
theorem C_131 (a : Nat) (μ : Nat) (h : MH) (h1 : kd h a = 8) (h2 : 2 ≤ a) (hμ : 6 < μ) : cal 131 [.ref a] μ h = rn 131 (6) B_131_0 [some (.ref a), none, none] [] h := cal_of ⟨hμ, show decide (kd h a = 8 ∧ 2 ≤ a ∧ 8 < 13) = true from decide_eq_true ⟨h1, h2, by decide⟩, rfl, by decide, Nat.le_of_ble_eq_true rfl⟩
theorem T_131_12 : tgt 131 12 = B_131_12 := rfl
theorem T_131_31 : tgt 131 31 = B_131_31 := rfl
theorem T_131_75 : tgt 131 75 = B_131_75 := rfl
theorem T_131_81 : tgt 131 81 = B_131_81 := rfl
theorem R_131 (μ : Nat) (cs : List IR) (ls : LV) (x : Int32) (h : MH) (hx : x = 0 ∨ x = 1) : rn 131 μ (.ireturn :: cs) ls [.int x] h = some (some (.int x), h) := rz_of (by decide +kernel) hx
theorem C_132 (a : Nat) (μ : Nat) (h : MH) (h1 : kd h a = 11) (h2 : 2 ≤ a) (hμ : 7 < μ) : cal 132 [.ref a] μ h = rn 132 (7) B_132_0 [some (.ref a)] [] h := cal_of ⟨hμ, show decide (kd h a = 11 ∧ 2 ≤ a ∧ 11 < 13) = true from decide_eq_true ⟨h1, h2, by decide⟩, rfl, by decide, Nat.le_of_ble_eq_true rfl⟩
theorem R_132 (μ : Nat) (cs : List IR) (ls : LV) (x : Int32) (h : MH) : rn 132 μ (.ireturn :: cs) ls [.int x] h = some (some (.int x), h) := by
  rw [rn_fix]; rfl
theorem C_133 (a : Nat) (μ : Nat) (h : MH) (h1 : kd h a = 8) (h2 : 2 ≤ a) (hμ : 6 < μ) : cal 133 [.ref a] μ h = rn 133 (6) B_133_0 [some (.ref a), none, none, none, none] [] h := cal_of ⟨hμ, show decide (kd h a = 8 ∧ 2 ≤ a ∧ 8 < 13) = true from decide_eq_true ⟨h1, h2, by decide⟩, rfl, by decide, Nat.le_of_ble_eq_true rfl⟩
theorem T_133_42 : tgt 133 42 = B_133_42 := rfl
theorem R_133 (μ : Nat) (cs : List IR) (ls : LV) (x : Int32) (h : MH) : rn 133 μ (.ireturn :: cs) ls [.int x] h = some (some (.int x), h) := by
  rw [rn_fix]; rfl
theorem C_134 (a : Nat) (μ : Nat) (h : MH) (h1 : kd h a = 8) (h2 : 2 ≤ a) (hμ : 4 < μ) : cal 134 [.ref a] μ h = rn 134 (4) B_134_0 [some (.ref a)] [] h := cal_of ⟨hμ, show decide (kd h a = 8 ∧ 2 ≤ a ∧ 8 < 13) = true from decide_eq_true ⟨h1, h2, by decide⟩, rfl, by decide, Nat.le_of_ble_eq_true rfl⟩
theorem R_134 (μ : Nat) (cs : List IR) (ls : LV) (x : Int32) (h : MH) : rn 134 μ (.ireturn :: cs) ls [.int x] h = some (some (.int x), h) := by
  rw [rn_fix]; rfl
theorem C_135 (x0 : Int32) (μ : Nat) (h : MH)  (hμ : 3 < μ) : cal 135 [.int x0] μ h = rn 135 (3) B_135_0 [some (.int x0)] [] h := cal_of ⟨hμ, rfl, rfl, by decide, Nat.le_of_ble_eq_true rfl⟩
theorem R_135 (μ : Nat) (cs : List IR) (ls : LV) (x : Int32) (h : MH) : rn 135 μ (.ireturn :: cs) ls [.int x] h = some (some (.int x), h) := by
  rw [rn_fix]; rfl
theorem C_136 (x0 : Int32) (x1 : Int32) (μ : Nat) (h : MH)  (hμ : 3 < μ) : cal 136 [.int x0, .int x1] μ h = rn 136 (3) B_136_0 [some (.int x0), some (.int x1), none, none] [] h := cal_of ⟨hμ, rfl, rfl, by decide, Nat.le_of_ble_eq_true rfl⟩
theorem T_136_4 : tgt 136 4 = B_136_4 := rfl
theorem T_136_25 : tgt 136 25 = B_136_25 := rfl
theorem T_136_28 : tgt 136 28 = B_136_28 := rfl
theorem T_136_34 : tgt 136 34 = B_136_34 := rfl
theorem R_136 (μ : Nat) (cs : List IR) (ls : LV) (x : Int32) (h : MH) : rn 136 μ (.ireturn :: cs) ls [.int x] h = some (some (.int x), h) := by
  rw [rn_fix]; rfl
theorem C_137 (a : Nat) (μ : Nat) (h : MH) (h1 : kd h a = 11) (h2 : 2 ≤ a) (hμ : 4 < μ) : cal 137 [.ref a] μ h = rn 137 (4) B_137_0 [some (.ref a)] [] h := cal_of ⟨hμ, show decide (kd h a = 11 ∧ 2 ≤ a ∧ 11 < 13) = true from decide_eq_true ⟨h1, h2, by decide⟩, rfl, by decide, Nat.le_of_ble_eq_true rfl⟩
theorem R_137 (μ : Nat) (cs : List IR) (ls : LV) (x : Int32) (h : MH) (hx : x = 0 ∨ x = 1) : rn 137 μ (.ireturn :: cs) ls [.int x] h = some (some (.int x), h) := rz_of (by decide +kernel) hx
theorem C_138 (a : Nat) (μ : Nat) (h : MH) (h1 : kd h a = 8) (h2 : 2 ≤ a) (hμ : 3 < μ) : cal 138 [.ref a] μ h = rn 138 (3) B_138_0 [some (.ref a)] [] h := cal_of ⟨hμ, show decide (kd h a = 8 ∧ 2 ≤ a ∧ 8 < 13) = true from decide_eq_true ⟨h1, h2, by decide⟩, rfl, by decide, Nat.le_of_ble_eq_true rfl⟩
theorem T_138_9 : tgt 138 9 = B_138_9 := rfl
theorem R_138 (μ : Nat) (cs : List IR) (ls : LV) (x : Int32) (h : MH) (hx : x = 0 ∨ x = 1) : rn 138 μ (.ireturn :: cs) ls [.int x] h = some (some (.int x), h) := rz_of (by decide +kernel) hx
theorem C_139 (a : Nat) (μ : Nat) (h : MH) (h1 : kd h a = 11) (h2 : 2 ≤ a) (hμ : 4 < μ) : cal 139 [.ref a] μ h = rn 139 (4) B_139_0 [some (.ref a)] [] h := cal_of ⟨hμ, show decide (kd h a = 11 ∧ 2 ≤ a ∧ 11 < 13) = true from decide_eq_true ⟨h1, h2, by decide⟩, rfl, by decide, Nat.le_of_ble_eq_true rfl⟩
theorem R_139 (μ : Nat) (cs : List IR) (ls : LV) (x : Int32) (h : MH) (hx : x = 0 ∨ x = 1) : rn 139 μ (.ireturn :: cs) ls [.int x] h = some (some (.int x), h) := rz_of (by decide +kernel) hx
theorem C_140 (a : Nat) (μ : Nat) (h : MH) (h1 : kd h a = 8) (h2 : 2 ≤ a) (hμ : 3 < μ) : cal 140 [.ref a] μ h = rn 140 (3) B_140_0 [some (.ref a)] [] h := cal_of ⟨hμ, show decide (kd h a = 8 ∧ 2 ≤ a ∧ 8 < 13) = true from decide_eq_true ⟨h1, h2, by decide⟩, rfl, by decide, Nat.le_of_ble_eq_true rfl⟩
theorem T_140_9 : tgt 140 9 = B_140_9 := rfl
theorem R_140 (μ : Nat) (cs : List IR) (ls : LV) (x : Int32) (h : MH) (hx : x = 0 ∨ x = 1) : rn 140 μ (.ireturn :: cs) ls [.int x] h = some (some (.int x), h) := rz_of (by decide +kernel) hx
theorem C_141 (a : Nat) (x0 : Int32) (μ : Nat) (h : MH) (h1 : kd h a = 11) (h2 : 2 ≤ a) (hμ : 6 < μ) : cal 141 [.ref a, .int x0] μ h = rn 141 (6) B_141_0 [some (.ref a), some (.int x0), none, none, none, none, none] [] h := cal_of ⟨hμ, show decide (kd h a = 11 ∧ 2 ≤ a ∧ 11 < 13) = true from decide_eq_true ⟨h1, h2, by decide⟩, rfl, by decide, Nat.le_of_ble_eq_true rfl⟩
theorem T_141_23 : tgt 141 23 = B_141_23 := rfl
theorem T_141_54 : tgt 141 54 = B_141_54 := rfl
theorem T_141_104 : tgt 141 104 = B_141_104 := rfl
theorem T_141_110 : tgt 141 110 = B_141_110 := rfl
theorem R_141 (μ : Nat) (cs : List IR) (ls : LV) (x : Int32) (h : MH) : rn 141 μ (.ireturn :: cs) ls [.int x] h = some (some (.int x), h) := by
  rw [rn_fix]; rfl
theorem C_142 (a : Nat) (x0 : Int32) (μ : Nat) (h : MH) (h1 : kd h a = 3) (h2 : 2 ≤ a) (hμ : 3 < μ) : cal 142 [.ref a, .int x0] μ h = rn 142 (3) B_142_0 [some (.ref a), some (.int x0)] [] h := cal_of ⟨hμ, show decide (kd h a = 3 ∧ 2 ≤ a ∧ 3 < 13) = true from decide_eq_true ⟨h1, h2, by decide⟩, rfl, by decide, Nat.le_of_ble_eq_true rfl⟩
theorem T_142_48 : tgt 142 48 = B_142_48 := rfl
theorem R_142 (μ : Nat) (cs : List IR) (ls : LV) (h : MH) : rn 142 μ (.return_ :: cs) ls [] h = some (none, h) := by
  rw [rn_fix]; rfl
theorem C_143 (a : Nat) (x0 : Int32) (x1 : Int32) (μ : Nat) (h : MH) (h1 : kd h a = 11) (h2 : 2 ≤ a) (hμ : 4 < μ) : cal 143 [.ref a, .int x0, .int x1] μ h = rn 143 (4) B_143_0 [some (.ref a), some (.int x0), some (.int x1)] [] h := cal_of ⟨hμ, show decide (kd h a = 11 ∧ 2 ≤ a ∧ 11 < 13) = true from decide_eq_true ⟨h1, h2, by decide⟩, rfl, by decide, Nat.le_of_ble_eq_true rfl⟩
theorem T_143_18 : tgt 143 18 = B_143_18 := rfl
theorem T_143_20 : tgt 143 20 = B_143_20 := rfl
theorem T_143_42 : tgt 143 42 = B_143_42 := rfl
theorem T_143_43 : tgt 143 43 = B_143_43 := rfl
theorem R_143 (μ : Nat) (cs : List IR) (ls : LV) (x : Int32) (h : MH) : rn 143 μ (.ireturn :: cs) ls [.int x] h = some (some (.int x), h) := by
  rw [rn_fix]; rfl
theorem C_144 (x0 : Int32) (μ : Nat) (h : MH)  (hμ : 3 < μ) : cal 144 [.int x0] μ h = rn 144 (3) B_144_0 [some (.int x0)] [] h := cal_of ⟨hμ, rfl, rfl, by decide, Nat.le_of_ble_eq_true rfl⟩
theorem T_144_16 : tgt 144 16 = B_144_16 := rfl
theorem T_144_17 : tgt 144 17 = B_144_17 := rfl
theorem R_144 (μ : Nat) (cs : List IR) (ls : LV) (x : Int32) (h : MH) (hx : x = 0 ∨ x = 1) : rn 144 μ (.ireturn :: cs) ls [.int x] h = some (some (.int x), h) := rz_of (by decide +kernel) hx
theorem C_145 (a : Nat) (x0 : Int32) (x1 : Int32) (μ : Nat) (h : MH) (h1 : kd h a = 10) (h2 : 2 ≤ a) (hμ : 3 < μ) : cal 145 [.ref a, .int x0, .int x1] μ h = rn 145 (3) B_145_0 [some (.ref a), some (.int x0), some (.int x1)] [] h := cal_of ⟨hμ, show decide (kd h a = 10 ∧ 2 ≤ a ∧ 10 < 13) = true from decide_eq_true ⟨h1, h2, by decide⟩, rfl, by decide, Nat.le_of_ble_eq_true rfl⟩
theorem T_145_16 : tgt 145 16 = B_145_16 := rfl
theorem T_145_18 : tgt 145 18 = B_145_18 := rfl
theorem R_145 (μ : Nat) (cs : List IR) (ls : LV) (x : Int32) (h : MH) (hx : x = 0 ∨ x = 1) : rn 145 μ (.ireturn :: cs) ls [.int x] h = some (some (.int x), h) := rz_of (by decide +kernel) hx
theorem C_146 (a : Nat) (μ : Nat) (h : MH) (h1 : kd h a = 11) (h2 : 2 ≤ a) (hμ : 3 < μ) : cal 146 [.ref a] μ h = rn 146 (3) B_146_0 [some (.ref a), none] [] h := cal_of ⟨hμ, show decide (kd h a = 11 ∧ 2 ≤ a ∧ 11 < 13) = true from decide_eq_true ⟨h1, h2, by decide⟩, rfl, by decide, Nat.le_of_ble_eq_true rfl⟩
theorem R_146 (μ : Nat) (cs : List IR) (ls : LV) (x : Int32) (h : MH) : rn 146 μ (.ireturn :: cs) ls [.int x] h = some (some (.int x), h) := by
  rw [rn_fix]; rfl
theorem C_147 (a : Nat) (x0 : Int32) (μ : Nat) (h : MH) (h1 : kd h a = 11) (h2 : 2 ≤ a) (hμ : 8 < μ) : cal 147 [.ref a, .int x0] μ h = rn 147 (8) B_147_0 [some (.ref a), some (.int x0)] [] h := cal_of ⟨hμ, show decide (kd h a = 11 ∧ 2 ≤ a ∧ 11 < 13) = true from decide_eq_true ⟨h1, h2, by decide⟩, rfl, by decide, Nat.le_of_ble_eq_true rfl⟩
theorem T_147_16 : tgt 147 16 = B_147_16 := rfl
theorem R_147 (μ : Nat) (cs : List IR) (ls : LV) (x : Int32) (h : MH) : rn 147 μ (.ireturn :: cs) ls [.int x] h = some (some (.int x), h) := by
  rw [rn_fix]; rfl
theorem C_148 (x0 : Nat) (x1 : Int32) (x2 : Int32) (x3 : Nat) (μ : Nat) (h : MH)  (hμ : 7 < μ) : cal 148 [.ref x0, .int x1, .int x2, .ref x3] μ h = rn 148 (7) B_148_0 [some (.ref x0), some (.int x1), some (.int x2), some (.ref x3), none, none, none, none, none, none] [] h := cal_of ⟨hμ, rfl, rfl, by decide, Nat.le_of_ble_eq_true rfl⟩
theorem T_148_30 : tgt 148 30 = B_148_30 := rfl
theorem T_148_57 : tgt 148 57 = B_148_57 := rfl
theorem T_148_61 : tgt 148 61 = B_148_61 := rfl
theorem T_148_62 : tgt 148 62 = B_148_62 := rfl
theorem T_148_87 : tgt 148 87 = B_148_87 := rfl
theorem T_148_104 : tgt 148 104 = B_148_104 := rfl
theorem T_148_110 : tgt 148 110 = B_148_110 := rfl
theorem R_148 (μ : Nat) (cs : List IR) (ls : LV) (x : Int32) (h : MH) : rn 148 μ (.ireturn :: cs) ls [.int x] h = some (some (.int x), h) := by
  rw [rn_fix]; rfl
theorem C_149 (a : Nat) (x0 : Nat) (x1 : Int32) (x2 : Int32) (μ : Nat) (h : MH) (h1 : kd h a = 10) (h2 : 2 ≤ a) (hμ : 6 < μ) : cal 149 [.ref a, .ref x0, .int x1, .int x2] μ h = rn 149 (6) B_149_0 [some (.ref a), some (.ref x0), some (.int x1), some (.int x2), none] [] h := cal_of ⟨hμ, show decide (kd h a = 10 ∧ 2 ≤ a ∧ 10 < 13) = true from decide_eq_true ⟨h1, h2, by decide⟩, rfl, by decide, Nat.le_of_ble_eq_true rfl⟩
theorem T_149_3 : tgt 149 3 = B_149_3 := rfl
theorem T_149_44 : tgt 149 44 = B_149_44 := rfl
theorem T_149_50 : tgt 149 50 = B_149_50 := rfl
theorem R_149 (μ : Nat) (cs : List IR) (ls : LV) (x : Int32) (h : MH) (hx : x = 0 ∨ x = 1) : rn 149 μ (.ireturn :: cs) ls [.int x] h = some (some (.int x), h) := rz_of (by decide +kernel) hx
theorem C_150 (x0 : Int32) (x1 : Int32) (μ : Nat) (h : MH)  (hμ : 3 < μ) : cal 150 [.int x0, .int x1] μ h = rn 150 (3) B_150_0 [some (.int x0), some (.int x1)] [] h := cal_of ⟨hμ, rfl, rfl, by decide, Nat.le_of_ble_eq_true rfl⟩
theorem R_150 (μ : Nat) (cs : List IR) (ls : LV) (x : Int32) (h : MH) : rn 150 μ (.ireturn :: cs) ls [.int x] h = some (some (.int x), h) := by
  rw [rn_fix]; rfl
theorem C_151 (a : Nat) (x0 : Int32) (μ : Nat) (h : MH) (h1 : kd h a = 11) (h2 : 2 ≤ a) (hμ : 8 < μ) : cal 151 [.ref a, .int x0] μ h = rn 151 (8) B_151_0 [some (.ref a), some (.int x0)] [] h := cal_of ⟨hμ, show decide (kd h a = 11 ∧ 2 ≤ a ∧ 11 < 13) = true from decide_eq_true ⟨h1, h2, by decide⟩, rfl, by decide, Nat.le_of_ble_eq_true rfl⟩
theorem T_151_16 : tgt 151 16 = B_151_16 := rfl
theorem R_151 (μ : Nat) (cs : List IR) (ls : LV) (x : Int32) (h : MH) : rn 151 μ (.ireturn :: cs) ls [.int x] h = some (some (.int x), h) := by
  rw [rn_fix]; rfl
theorem C_152 (x0 : Nat) (x1 : Int32) (x2 : Int32) (μ : Nat) (h : MH)  (hμ : 7 < μ) : cal 152 [.ref x0, .int x1, .int x2] μ h = rn 152 (7) B_152_0 [some (.ref x0), some (.int x1), some (.int x2), none, none, none, none] [] h := cal_of ⟨hμ, rfl, rfl, by decide, Nat.le_of_ble_eq_true rfl⟩
theorem T_152_17 : tgt 152 17 = B_152_17 := rfl
theorem T_152_53 : tgt 152 53 = B_152_53 := rfl
theorem T_152_69 : tgt 152 69 = B_152_69 := rfl
theorem T_152_75 : tgt 152 75 = B_152_75 := rfl
theorem R_152 (μ : Nat) (cs : List IR) (ls : LV) (x : Int32) (h : MH) : rn 152 μ (.ireturn :: cs) ls [.int x] h = some (some (.int x), h) := by
  rw [rn_fix]; rfl
theorem C_153 (x0 : Nat) (x1 : Int32) (x2 : Int32) (x3 : Int32) (μ : Nat) (h : MH)  (hμ : 6 < μ) : cal 153 [.ref x0, .int x1, .int x2, .int x3] μ h = rn 153 (6) B_153_0 [some (.ref x0), some (.int x1), some (.int x2), some (.int x3), none] [] h := cal_of ⟨hμ, rfl, rfl, by decide, Nat.le_of_ble_eq_true rfl⟩
theorem T_153_3 : tgt 153 3 = B_153_3 := rfl
theorem T_153_33 : tgt 153 33 = B_153_33 := rfl
theorem T_153_39 : tgt 153 39 = B_153_39 := rfl
theorem R_153 (μ : Nat) (cs : List IR) (ls : LV) (x : Int32) (h : MH) (hx : x = 0 ∨ x = 1) : rn 153 μ (.ireturn :: cs) ls [.int x] h = some (some (.int x), h) := rz_of (by decide +kernel) hx
theorem C_154 (a : Nat) (x0 : Int32) (μ : Nat) (h : MH) (h1 : kd h a = 11) (h2 : 2 ≤ a) (hμ : 4 < μ) : cal 154 [.ref a, .int x0] μ h = rn 154 (4) B_154_0 [some (.ref a), some (.int x0)] [] h := cal_of ⟨hμ, show decide (kd h a = 11 ∧ 2 ≤ a ∧ 11 < 13) = true from decide_eq_true ⟨h1, h2, by decide⟩, rfl, by decide, Nat.le_of_ble_eq_true rfl⟩
theorem T_154_22 : tgt 154 22 = B_154_22 := rfl
theorem T_154_23 : tgt 154 23 = B_154_23 := rfl
theorem R_154 (μ : Nat) (cs : List IR) (ls : LV) (x : Int32) (h : MH) : rn 154 μ (.ireturn :: cs) ls [.int x] h = some (some (.int x), h) := by
  rw [rn_fix]; rfl
theorem C_155 (a : Nat) (x0 : Int32) (μ : Nat) (h : MH) (h1 : kd h a = 0) (h2 : 2 ≤ a) (hμ : 3 < μ) : cal 155 [.ref a, .int x0] μ h = rn 155 (3) B_155_0 [some (.ref a), some (.int x0)] [] h := cal_of ⟨hμ, show decide (kd h a = 0 ∧ 2 ≤ a ∧ 0 < 13) = true from decide_eq_true ⟨h1, h2, by decide⟩, rfl, by decide, Nat.le_of_ble_eq_true rfl⟩
theorem T_155_20 : tgt 155 20 = B_155_20 := rfl
theorem T_155_21 : tgt 155 21 = B_155_21 := rfl
theorem R_155 (μ : Nat) (cs : List IR) (ls : LV) (x : Int32) (h : MH) : rn 155 μ (.ireturn :: cs) ls [.int x] h = some (some (.int x), h) := by
  rw [rn_fix]; rfl
theorem C_156 (a : Nat) (x0 : Int32) (x1 : Int32) (μ : Nat) (h : MH) (h1 : kd h a = 11) (h2 : 2 ≤ a) (hμ : 8 < μ) : cal 156 [.ref a, .int x0, .int x1] μ h = rn 156 (8) B_156_0 [some (.ref a), some (.int x0), some (.int x1), none, none, none, none, none, none] [] h := cal_of ⟨hμ, show decide (kd h a = 11 ∧ 2 ≤ a ∧ 11 < 13) = true from decide_eq_true ⟨h1, h2, by decide⟩, rfl, by decide, Nat.le_of_ble_eq_true rfl⟩
theorem T_156_23 : tgt 156 23 = B_156_23 := rfl
theorem T_156_25 : tgt 156 25 = B_156_25 := rfl
theorem T_156_45 : tgt 156 45 = B_156_45 := rfl
theorem T_156_78 : tgt 156 78 = B_156_78 := rfl
theorem T_156_93 : tgt 156 93 = B_156_93 := rfl
theorem T_156_99 : tgt 156 99 = B_156_99 := rfl
theorem T_156_106 : tgt 156 106 = B_156_106 := rfl
theorem T_156_116 : tgt 156 116 = B_156_116 := rfl
theorem T_156_118 : tgt 156 118 = B_156_118 := rfl
theorem R_156 (μ : Nat) (cs : List IR) (ls : LV) (x : Int32) (h : MH) : rn 156 μ (.ireturn :: cs) ls [.int x] h = some (some (.int x), h) := by
  rw [rn_fix]; rfl
theorem C_157 (a : Nat) (x0 : Int32) (x1 : Int32) (x2 : Int32) (μ : Nat) (h : MH) (h1 : kd h a = 0) (h2 : 2 ≤ a) (hμ : 7 < μ) : cal 157 [.ref a, .int x0, .int x1, .int x2] μ h = rn 157 (7) B_157_0 [some (.ref a), some (.int x0), some (.int x1), some (.int x2), none] [] h := cal_of ⟨hμ, show decide (kd h a = 0 ∧ 2 ≤ a ∧ 0 < 13) = true from decide_eq_true ⟨h1, h2, by decide⟩, rfl, by decide, Nat.le_of_ble_eq_true rfl⟩
theorem T_157_30 : tgt 157 30 = B_157_30 := rfl
theorem T_157_31 : tgt 157 31 = B_157_31 := rfl
theorem R_157 (μ : Nat) (cs : List IR) (ls : LV) (x : Int32) (h : MH) : rn 157 μ (.ireturn :: cs) ls [.int x] h = some (some (.int x), h) := by
  rw [rn_fix]; rfl
theorem C_158 (a : Nat) (x0 : Int32) (x1 : Int32) (x2 : Int32) (μ : Nat) (h : MH) (h1 : kd h a = 0) (h2 : 2 ≤ a) (hμ : 6 < μ) : cal 158 [.ref a, .int x0, .int x1, .int x2] μ h = rn 158 (6) B_158_0 [some (.ref a), some (.int x0), some (.int x1), some (.int x2)] [] h := cal_of ⟨hμ, show decide (kd h a = 0 ∧ 2 ≤ a ∧ 0 < 13) = true from decide_eq_true ⟨h1, h2, by decide⟩, rfl, by decide, Nat.le_of_ble_eq_true rfl⟩
theorem R_158 (μ : Nat) (cs : List IR) (ls : LV) (x : Int32) (h : MH) : rn 158 μ (.ireturn :: cs) ls [.int x] h = some (some (.int x), h) := by
  rw [rn_fix]; rfl
theorem C_159 (a : Nat) (x0 : Int32) (μ : Nat) (h : MH) (h1 : kd h a = 11) (h2 : 2 ≤ a) (hμ : 9 < μ) : cal 159 [.ref a, .int x0] μ h = rn 159 (9) B_159_0 [some (.ref a), some (.int x0)] [] h := cal_of ⟨hμ, show decide (kd h a = 11 ∧ 2 ≤ a ∧ 11 < 13) = true from decide_eq_true ⟨h1, h2, by decide⟩, rfl, by decide, Nat.le_of_ble_eq_true rfl⟩
theorem T_159_32 : tgt 159 32 = B_159_32 := rfl
theorem T_159_35 : tgt 159 35 = B_159_35 := rfl
theorem R_159 (μ : Nat) (cs : List IR) (ls : LV) (x : Int64) (h : MH) : rn 159 μ (.lreturn :: cs) ls [.long x] h = some (some (.long x), h) := by
  rw [rn_fix]; rfl
theorem C_160 (a : Nat) (x0 : Int32) (x1 : Int32) (μ : Nat) (h : MH) (h1 : kd h a = 0) (h2 : 2 ≤ a) (hμ : 8 < μ) : cal 160 [.ref a, .int x0, .int x1] μ h = rn 160 (8) B_160_0 [some (.ref a), some (.int x0), some (.int x1), none, none, none] [] h := cal_of ⟨hμ, show decide (kd h a = 0 ∧ 2 ≤ a ∧ 0 < 13) = true from decide_eq_true ⟨h1, h2, by decide⟩, rfl, by decide, Nat.le_of_ble_eq_true rfl⟩
theorem T_160_5 : tgt 160 5 = B_160_5 := rfl
theorem T_160_32 : tgt 160 32 = B_160_32 := rfl
theorem R_160 (μ : Nat) (cs : List IR) (ls : LV) (x : Int64) (h : MH) : rn 160 μ (.lreturn :: cs) ls [.long x] h = some (some (.long x), h) := by
  rw [rn_fix]; rfl
theorem C_161 (a : Nat) (x0 : Int32) (μ : Nat) (h : MH) (h1 : kd h a = 11) (h2 : 2 ≤ a) (hμ : 9 < μ) : cal 161 [.ref a, .int x0] μ h = rn 161 (9) B_161_0 [some (.ref a), some (.int x0), none, none, none, none, none, none, none, none] [] h := cal_of ⟨hμ, show decide (kd h a = 11 ∧ 2 ≤ a ∧ 11 < 13) = true from decide_eq_true ⟨h1, h2, by decide⟩, rfl, by decide, Nat.le_of_ble_eq_true rfl⟩
theorem T_161_16 : tgt 161 16 = B_161_16 := rfl
theorem T_161_55 : tgt 161 55 = B_161_55 := rfl
theorem T_161_103 : tgt 161 103 = B_161_103 := rfl
theorem T_161_109 : tgt 161 109 = B_161_109 := rfl
theorem R_161 (μ : Nat) (cs : List IR) (ls : LV) (x : Int32) (h : MH) : rn 161 μ (.ireturn :: cs) ls [.int x] h = some (some (.int x), h) := by
  rw [rn_fix]; rfl
theorem C_162 (a : Nat) (x0 : Int32) (x1 : Int32) (μ : Nat) (h : MH) (h1 : kd h a = 11) (h2 : 2 ≤ a) (hμ : 7 < μ) : cal 162 [.ref a, .int x0, .int x1] μ h = rn 162 (7) B_162_0 [some (.ref a), some (.int x0), some (.int x1), none, none, none, none, none, none, none, none] [] h := cal_of ⟨hμ, show decide (kd h a = 11 ∧ 2 ≤ a ∧ 11 < 13) = true from decide_eq_true ⟨h1, h2, by decide⟩, rfl, by decide, Nat.le_of_ble_eq_true rfl⟩
theorem T_162_25 : tgt 162 25 = B_162_25 := rfl
theorem T_162_27 : tgt 162 27 = B_162_27 := rfl
theorem T_162_60 : tgt 162 60 = B_162_60 := rfl
theorem T_162_125 : tgt 162 125 = B_162_125 := rfl
theorem T_162_137 : tgt 162 137 = B_162_137 := rfl
theorem T_162_143 : tgt 162 143 = B_162_143 := rfl
theorem R_162 (μ : Nat) (cs : List IR) (ls : LV) (x : Int32) (h : MH) : rn 162 μ (.ireturn :: cs) ls [.int x] h = some (some (.int x), h) := by
  rw [rn_fix]; rfl
theorem C_163 (a : Nat) (x0 : Int32) (x1 : Int32) (μ : Nat) (h : MH) (h1 : kd h a = 0) (h2 : 2 ≤ a) (hμ : 5 < μ) : cal 163 [.ref a, .int x0, .int x1] μ h = rn 163 (5) B_163_0 [some (.ref a), some (.int x0), some (.int x1), none, none] [] h := cal_of ⟨hμ, show decide (kd h a = 0 ∧ 2 ≤ a ∧ 0 < 13) = true from decide_eq_true ⟨h1, h2, by decide⟩, rfl, by decide, Nat.le_of_ble_eq_true rfl⟩
theorem T_163_5 : tgt 163 5 = B_163_5 := rfl
theorem T_163_40 : tgt 163 40 = B_163_40 := rfl
theorem T_163_46 : tgt 163 46 = B_163_46 := rfl
theorem R_163 (μ : Nat) (cs : List IR) (ls : LV) (x : Int32) (h : MH) : rn 163 μ (.ireturn :: cs) ls [.int x] h = some (some (.int x), h) := by
  rw [rn_fix]; rfl
theorem C_164 (a : Nat) (x0 : Int32) (x1 : Int32) (μ : Nat) (h : MH) (h1 : kd h a = 11) (h2 : 2 ≤ a) (hμ : 6 < μ) : cal 164 [.ref a, .int x0, .int x1] μ h = rn 164 (6) B_164_0 [some (.ref a), some (.int x0), some (.int x1), none, none, none] [] h := cal_of ⟨hμ, show decide (kd h a = 11 ∧ 2 ≤ a ∧ 11 < 13) = true from decide_eq_true ⟨h1, h2, by decide⟩, rfl, by decide, Nat.le_of_ble_eq_true rfl⟩
theorem T_164_35 : tgt 164 35 = B_164_35 := rfl
theorem T_164_37 : tgt 164 37 = B_164_37 := rfl
theorem T_164_51 : tgt 164 51 = B_164_51 := rfl
theorem T_164_100 : tgt 164 100 = B_164_100 := rfl
theorem T_164_106 : tgt 164 106 = B_164_106 := rfl
theorem R_164 (μ : Nat) (cs : List IR) (ls : LV) (x : Int32) (h : MH) : rn 164 μ (.ireturn :: cs) ls [.int x] h = some (some (.int x), h) := by
  rw [rn_fix]; rfl
theorem C_165 (a : Nat) (x0 : Int32) (x1 : Int32) (μ : Nat) (h : MH) (h1 : kd h a = 11) (h2 : 2 ≤ a) (hμ : 7 < μ) : cal 165 [.ref a, .int x0, .int x1] μ h = rn 165 (7) B_165_0 [some (.ref a), some (.int x0), some (.int x1)] [] h := cal_of ⟨hμ, show decide (kd h a = 11 ∧ 2 ≤ a ∧ 11 < 13) = true from decide_eq_true ⟨h1, h2, by decide⟩, rfl, by decide, Nat.le_of_ble_eq_true rfl⟩
theorem T_165_37 : tgt 165 37 = B_165_37 := rfl
theorem T_165_40 : tgt 165 40 = B_165_40 := rfl
theorem R_165 (μ : Nat) (cs : List IR) (ls : LV) (x : Int32) (h : MH) : rn 165 μ (.ireturn :: cs) ls [.int x] h = some (some (.int x), h) := by
  rw [rn_fix]; rfl
theorem C_166 (a : Nat) (μ : Nat) (h : MH) (h1 : kd h a = 11) (h2 : 2 ≤ a) (hμ : 4 < μ) : cal 166 [.ref a] μ h = rn 166 (4) B_166_0 [some (.ref a)] [] h := cal_of ⟨hμ, show decide (kd h a = 11 ∧ 2 ≤ a ∧ 11 < 13) = true from decide_eq_true ⟨h1, h2, by decide⟩, rfl, by decide, Nat.le_of_ble_eq_true rfl⟩
theorem T_166_18 : tgt 166 18 = B_166_18 := rfl
theorem R_166 (μ : Nat) (cs : List IR) (ls : LV) (x : Nat) (h : MH) : rn 166 μ (.areturn :: cs) ls [.ref x] h = some (some (.ref x), h) := by
  rw [rn_fix]; rfl
theorem C_167 (a : Nat) (μ : Nat) (h : MH) (h1 : kd h a = 7) (h2 : 2 ≤ a) (hμ : 3 < μ) : cal 167 [.ref a] μ h = rn 167 (3) B_167_0 [some (.ref a)] [] h := cal_of ⟨hμ, show decide (kd h a = 7 ∧ 2 ≤ a ∧ 7 < 13) = true from decide_eq_true ⟨h1, h2, by decide⟩, rfl, by decide, Nat.le_of_ble_eq_true rfl⟩
theorem R_167 (μ : Nat) (cs : List IR) (ls : LV) (h : MH) : rn 167 μ (.return_ :: cs) ls [] h = some (none, h) := by
  rw [rn_fix]; rfl
theorem C_168 (a : Nat) (x0 : Nat) (x1 : Int32) (x2 : Int32) (x3 : Int32) (x4 : Nat) (μ : Nat) (h : MH) (h1 : kd h a = 7) (h2 : 2 ≤ a) (hμ : 6 < μ) : cal 168 [.ref a, .ref x0, .int x1, .int x2, .int x3, .ref x4] μ h = rn 168 (6) B_168_0 [some (.ref a), some (.ref x0), some (.int x1), some (.int x2), some (.int x3), some (.ref x4), none, none, none] [] h := cal_of ⟨hμ, show decide (kd h a = 7 ∧ 2 ≤ a ∧ 7 < 13) = true from decide_eq_true ⟨h1, h2, by decide⟩, rfl, by decide, Nat.le_of_ble_eq_true rfl⟩
theorem T_168_24 : tgt 168 24 = B_168_24 := rfl
theorem T_168_26 : tgt 168 26 = B_168_26 := rfl
theorem T_168_53 : tgt 168 53 = B_168_53 := rfl
theorem T_168_103 : tgt 168 103 = B_168_103 := rfl
theorem T_168_116 : tgt 168 116 = B_168_116 := rfl
theorem R_168 (μ : Nat) (cs : List IR) (ls : LV) (x : Int32) (h : MH) : rn 168 μ (.ireturn :: cs) ls [.int x] h = some (some (.int x), h) := by
  rw [rn_fix]; rfl
theorem C_169 (a : Nat) (x0 : Int32) (μ : Nat) (h : MH) (h1 : kd h a = 7) (h2 : 2 ≤ a) (hμ : 4 < μ) : cal 169 [.ref a, .int x0] μ h = rn 169 (4) B_169_0 [some (.ref a), some (.int x0)] [] h := cal_of ⟨hμ, show decide (kd h a = 7 ∧ 2 ≤ a ∧ 7 < 13) = true from decide_eq_true ⟨h1, h2, by decide⟩, rfl, by decide, Nat.le_of_ble_eq_true rfl⟩
theorem R_169 (μ : Nat) (cs : List IR) (ls : LV) (h : MH) : rn 169 μ (.return_ :: cs) ls [] h = some (none, h) := by
  rw [rn_fix]; rfl
theorem C_170 (a : Nat) (x0 : Int32) (x1 : Int32) (μ : Nat) (h : MH) (h1 : kd h a = 7) (h2 : 2 ≤ a) (hμ : 3 < μ) : cal 170 [.ref a, .int x0, .int x1] μ h = rn 170 (3) B_170_0 [some (.ref a), some (.int x0), some (.int x1)] [] h := cal_of ⟨hμ, show decide (kd h a = 7 ∧ 2 ≤ a ∧ 7 < 13) = true from decide_eq_true ⟨h1, h2, by decide⟩, rfl, by decide, Nat.le_of_ble_eq_true rfl⟩
theorem T_170_67 : tgt 170 67 = B_170_67 := rfl
theorem R_170 (μ : Nat) (cs : List IR) (ls : LV) (h : MH) : rn 170 μ (.return_ :: cs) ls [] h = some (none, h) := by
  rw [rn_fix]; rfl
theorem C_171 (a : Nat) (x0 : Nat) (x1 : Int32) (x2 : Int32) (x3 : Int32) (μ : Nat) (h : MH) (h1 : kd h a = 7) (h2 : 2 ≤ a) (hμ : 5 < μ) : cal 171 [.ref a, .ref x0, .int x1, .int x2, .int x3] μ h = rn 171 (5) B_171_0 [some (.ref a), some (.ref x0), some (.int x1), some (.int x2), some (.int x3), none, none] [] h := cal_of ⟨hμ, show decide (kd h a = 7 ∧ 2 ≤ a ∧ 7 < 13) = true from decide_eq_true ⟨h1, h2, by decide⟩, rfl, by decide, Nat.le_of_ble_eq_true rfl⟩
theorem T_171_9 : tgt 171 9 = B_171_9 := rfl
theorem T_171_47 : tgt 171 47 = B_171_47 := rfl
theorem T_171_60 : tgt 171 60 = B_171_60 := rfl
theorem T_171_66 : tgt 171 66 = B_171_66 := rfl
theorem R_171 (μ : Nat) (cs : List IR) (ls : LV) (h : MH) : rn 171 μ (.return_ :: cs) ls [] h = some (none, h) := by
  rw [rn_fix]; rfl
theorem C_172 (a : Nat) (x0 : Int32) (x1 : Nat) (μ : Nat) (h : MH) (h1 : kd h a = 7) (h2 : 2 ≤ a) (hμ : 5 < μ) : cal 172 [.ref a, .int x0, .ref x1] μ h = rn 172 (5) B_172_0 [some (.ref a), some (.int x0), some (.ref x1), none, none, none] [] h := cal_of ⟨hμ, show decide (kd h a = 7 ∧ 2 ≤ a ∧ 7 < 13) = true from decide_eq_true ⟨h1, h2, by decide⟩, rfl, by decide, Nat.le_of_ble_eq_true rfl⟩
theorem T_172_5 : tgt 172 5 = B_172_5 := rfl
theorem T_172_41 : tgt 172 41 = B_172_41 := rfl
theorem T_172_54 : tgt 172 54 = B_172_54 := rfl
theorem T_172_101 : tgt 172 101 = B_172_101 := rfl
theorem R_172 (μ : Nat) (cs : List IR) (ls : LV) (h : MH) : rn 172 μ (.return_ :: cs) ls [] h = some (none, h) := by
  rw [rn_fix]; rfl
theorem C_173 (a : Nat) (x0 : Int32) (μ : Nat) (h : MH) (h1 : kd h a = 7) (h2 : 2 ≤ a) (hμ : 3 < μ) : cal 173 [.ref a, .int x0] μ h = rn 173 (3) B_173_0 [some (.ref a), some (.int x0)] [] h := cal_of ⟨hμ, show decide (kd h a = 7 ∧ 2 ≤ a ∧ 7 < 13) = true from decide_eq_true ⟨h1, h2, by decide⟩, rfl, by decide, Nat.le_of_ble_eq_true rfl⟩
theorem T_173_36 : tgt 173 36 = B_173_36 := rfl
theorem T_173_37 : tgt 173 37 = B_173_37 := rfl
theorem R_173 (μ : Nat) (cs : List IR) (ls : LV) (x : Int32) (h : MH) (hx : x = 0 ∨ x = 1) : rn 173 μ (.ireturn :: cs) ls [.int x] h = some (some (.int x), h) := rz_of (by decide +kernel) hx
theorem C_174 (a : Nat) (x0 : Int32) (μ : Nat) (h : MH) (h1 : kd h a = 3) (h2 : 2 ≤ a) (hμ : 4 < μ) : cal 174 [.ref a, .int x0] μ h = rn 174 (4) B_174_0 [some (.ref a), some (.int x0)] [] h := cal_of ⟨hμ, show decide (kd h a = 3 ∧ 2 ≤ a ∧ 3 < 13) = true from decide_eq_true ⟨h1, h2, by decide⟩, rfl, by decide, Nat.le_of_ble_eq_true rfl⟩
theorem T_174_18 : tgt 174 18 = B_174_18 := rfl
theorem R_174 (μ : Nat) (cs : List IR) (ls : LV) (h : MH) : rn 174 μ (.return_ :: cs) ls [] h = some (none, h) := by
  rw [rn_fix]; rfl
theorem C_175 (a : Nat) (x0 : Int32) (x1 : Int32) (μ : Nat) (h : MH) (h1 : kd h a = 3) (h2 : 2 ≤ a) (hμ : 3 < μ) : cal 175 [.ref a, .int x0, .int x1] μ h = rn 175 (3) B_175_0 [some (.ref a), some (.int x0), some (.int x1)] [] h := cal_of ⟨hμ, show decide (kd h a = 3 ∧ 2 ≤ a ∧ 3 < 13) = true from decide_eq_true ⟨h1, h2, by decide⟩, rfl, by decide, Nat.le_of_ble_eq_true rfl⟩
theorem T_175_28 : tgt 175 28 = B_175_28 := rfl
theorem R_175 (μ : Nat) (cs : List IR) (ls : LV) (h : MH) : rn 175 μ (.return_ :: cs) ls [] h = some (none, h) := by
  rw [rn_fix]; rfl
theorem C_176 (a : Nat) (x0 : Int32) (x1 : Int32) (x2 : Int32) (μ : Nat) (h : MH) (h1 : kd h a = 11) (h2 : 2 ≤ a) (hμ : 20 < μ) : cal 176 [.ref a, .int x0, .int x1, .int x2] μ h = rn 176 (20) B_176_0 [some (.ref a), some (.int x0), some (.int x1), some (.int x2), none, none] [] h := cal_of ⟨hμ, show decide (kd h a = 11 ∧ 2 ≤ a ∧ 11 < 13) = true from decide_eq_true ⟨h1, h2, by decide⟩, rfl, by decide, Nat.le_of_ble_eq_true rfl⟩
theorem T_176_33 : tgt 176 33 = B_176_33 := rfl
theorem T_176_35 : tgt 176 35 = B_176_35 := rfl
theorem T_176_70 : tgt 176 70 = B_176_70 := rfl
theorem T_176_75 : tgt 176 75 = B_176_75 := rfl
theorem R_176 (μ : Nat) (cs : List IR) (ls : LV) (x : Int32) (h : MH) : rn 176 μ (.ireturn :: cs) ls [.int x] h = some (some (.int x), h) := by
  rw [rn_fix]; rfl
theorem C_177 (a : Nat) (x0 : Nat) (x1 : Int32) (x2 : Int32) (x3 : Int32) (μ : Nat) (h : MH) (h1 : kd h a = 7) (h2 : 2 ≤ a) (hμ : 19 < μ) : cal 177 [.ref a, .ref x0, .int x1, .int x2, .int x3] μ h = rn 177 (19) B_177_0 [some (.ref a), some (.ref x0), some (.int x1), some (.int x2), some (.int x3)] [] h := cal_of ⟨hμ, show decide (kd h a = 7 ∧ 2 ≤ a ∧ 7 < 13) = true from decide_eq_true ⟨h1, h2, by decide⟩, rfl, by decide, Nat.le_of_ble_eq_true rfl⟩
theorem R_177 (μ : Nat) (cs : List IR) (ls : LV) (x : Int32) (h : MH) : rn 177 μ (.ireturn :: cs) ls [.int x] h = some (some (.int x), h) := by
  rw [rn_fix]; rfl
theorem C_178 (a : Nat) (x0 : Nat) (x1 : Int32) (x2 : Int32) (x3 : Int32) (x4 : Int32) (μ : Nat) (h : MH) (h1 : kd h a = 7) (h2 : 2 ≤ a) (hμ : mu 178 [.ref a, .ref x0, .int x1, .int x2, .int x3, .int x4] < μ) : cal 178 [.ref a, .ref x0, .int x1, .int x2, .int x3, .int x4] μ h = rn 178 (mu 178 [.ref a, .ref x0, .int x1, .int x2, .int x3, .int x4]) B_178_0 [some (.ref a), some (.ref x0), some (.int x1), some (.int x2), some (.int x3), some (.int x4), none, none, none, none, none, none] [] h := cal_of ⟨hμ, show decide (kd h a = 7 ∧ 2 ≤ a ∧ 7 < 13) = true from decide_eq_true ⟨h1, h2, by decide⟩, rfl, by decide, Nat.le_of_ble_eq_true rfl⟩
theorem T_178_13 : tgt 178 13 = B_178_13 := rfl
theorem T_178_44 : tgt 178 44 = B_178_44 := rfl
theorem T_178_45 : tgt 178 45 = B_178_45 := rfl
theorem T_178_53 : tgt 178 53 = B_178_53 := rfl
theorem T_178_92 : tgt 178 92 = B_178_92 := rfl
theorem T_178_93 : tgt 178 93 = B_178_93 := rfl
theorem T_178_114 : tgt 178 114 = B_178_114 := rfl
theorem T_178_118 : tgt 178 118 = B_178_118 := rfl
theorem T_178_129 : tgt 178 129 = B_178_129 := rfl
theorem T_178_130 : tgt 178 130 = B_178_130 := rfl
theorem T_178_150 : tgt 178 150 = B_178_150 := rfl
theorem T_178_158 : tgt 178 158 = B_178_158 := rfl
theorem T_178_164 : tgt 178 164 = B_178_164 := rfl
theorem R_178 (μ : Nat) (cs : List IR) (ls : LV) (x : Int32) (h : MH) : rn 178 μ (.ireturn :: cs) ls [.int x] h = some (some (.int x), h) := by
  rw [rn_fix]; rfl
theorem C_179 (a : Nat) (x0 : Nat) (x1 : Int32) (x2 : Int32) (μ : Nat) (h : MH) (h1 : kd h a = 7) (h2 : 2 ≤ a) (hμ : 7 < μ) : cal 179 [.ref a, .ref x0, .int x1, .int x2] μ h = rn 179 (7) B_179_0 [some (.ref a), some (.ref x0), some (.int x1), some (.int x2)] [] h := cal_of ⟨hμ, show decide (kd h a = 7 ∧ 2 ≤ a ∧ 7 < 13) = true from decide_eq_true ⟨h1, h2, by decide⟩, rfl, by decide, Nat.le_of_ble_eq_true rfl⟩
theorem T_179_11 : tgt 179 11 = B_179_11 := rfl
theorem T_179_13 : tgt 179 13 = B_179_13 := rfl
theorem T_179_36 : tgt 179 36 = B_179_36 := rfl
theorem R_179 (μ : Nat) (cs : List IR) (ls : LV) (x : Int32) (h : MH) : rn 179 μ (.ireturn :: cs) ls [.int x] h = some (some (.int x), h) := by
  rw [rn_fix]; rfl
theorem C_180 (a : Nat) (x0 : Int32) (x1 : Int32) (μ : Nat) (h : MH) (h1 : kd h a = 0) (h2 : 2 ≤ a) (hμ : 6 < μ) : cal 180 [.ref a, .int x0, .int x1] μ h = rn 180 (6) B_180_0 [some (.ref a), some (.int x0), some (.int x1), none, none] [] h := cal_of ⟨hμ, show decide (kd h a = 0 ∧ 2 ≤ a ∧ 0 < 13) = true from decide_eq_true ⟨h1, h2, by decide⟩, rfl, by decide, Nat.le_of_ble_eq_true rfl⟩
theorem T_180_5 : tgt 180 5 = B_180_5 := rfl
theorem T_180_35 : tgt 180 35 = B_180_35 := rfl
theorem R_180 (μ : Nat) (cs : List IR) (ls : LV) (x : Int32) (h : MH) : rn 180 μ (.ireturn :: cs) ls [.int x] h = some (some (.int x), h) := by
  rw [rn_fix]; rfl
theorem C_181 (a : Nat) (x0 : Int32) (μ : Nat) (h : MH) (h1 : kd h a = 11) (h2 : 2 ≤ a) (hμ : 4 < μ) : cal 181 [.ref a, .int x0] μ h = rn 181 (4) B_181_0 [some (.ref a), some (.int x0)] [] h := cal_of ⟨hμ, show decide (kd h a = 11 ∧ 2 ≤ a ∧ 11 < 13) = true from decide_eq_true ⟨h1, h2, by decide⟩, rfl, by decide, Nat.le_of_ble_eq_true rfl⟩
theorem R_181 (μ : Nat) (cs : List IR) (ls : LV) (x : Int32) (h : MH) : rn 181 μ (.ireturn :: cs) ls [.int x] h = some (some (.int x), h) := by
  rw [rn_fix]; rfl
theorem C_182 (a : Nat) (x0 : Int32) (μ : Nat) (h : MH) (h1 : kd h a = 3) (h2 : 2 ≤ a) (hμ : 3 < μ) : cal 182 [.ref a, .int x0] μ h = rn 182 (3) B_182_0 [some (.ref a), some (.int x0)] [] h := cal_of ⟨hμ, show decide (kd h a = 3 ∧ 2 ≤ a ∧ 3 < 13) = true from decide_eq_true ⟨h1, h2, by decide⟩, rfl, by decide, Nat.le_of_ble_eq_true rfl⟩
theorem T_182_30 : tgt 182 30 = B_182_30 := rfl
theorem T_182_31 : tgt 182 31 = B_182_31 := rfl
theorem R_182 (μ : Nat) (cs : List IR) (ls : LV) (x : Int32) (h : MH) : rn 182 μ (.ireturn :: cs) ls [.int x] h = some (some (.int x), h) := by
  rw [rn_fix]; rfl
theorem C_183 (a : Nat) (x0 : Int32) (x1 : Int32) (x2 : Int32) (μ : Nat) (h : MH) (h1 : kd h a = 11) (h2 : 2 ≤ a) (hμ : 4 < μ) : cal 183 [.ref a, .int x0, .int x1, .int x2] μ h = rn 183 (4) B_183_0 [some (.ref a), some (.int x0), some (.int x1), some (.int x2)] [] h := cal_of ⟨hμ, show decide (kd h a = 11 ∧ 2 ≤ a ∧ 11 < 13) = true from decide_eq_true ⟨h1, h2, by decide⟩, rfl, by decide, Nat.le_of_ble_eq_true rfl⟩
theorem T_183_32 : tgt 183 32 = B_183_32 := rfl
theorem T_183_34 : tgt 183 34 = B_183_34 := rfl
theorem R_183 (μ : Nat) (cs : List IR) (ls : LV) (x : Int32) (h : MH) : rn 183 μ (.ireturn :: cs) ls [.int x] h = some (some (.int x), h) := by
  rw [rn_fix]; rfl
theorem C_184 (a : Nat) (x0 : Int32) (x1 : Int32) (x2 : Int32) (μ : Nat) (h : MH) (h1 : kd h a = 2) (h2 : 2 ≤ a) (hμ : 3 < μ) : cal 184 [.ref a, .int x0, .int x1, .int x2] μ h = rn 184 (3) B_184_0 [some (.ref a), some (.int x0), some (.int x1), some (.int x2)] [] h := cal_of ⟨hμ, show decide (kd h a = 2 ∧ 2 ≤ a ∧ 2 < 13) = true from decide_eq_true ⟨h1, h2, by decide⟩, rfl, by decide, Nat.le_of_ble_eq_true rfl⟩
theorem T_184_16 : tgt 184 16 = B_184_16 := rfl
theorem T_184_18 : tgt 184 18 = B_184_18 := rfl
theorem R_184 (μ : Nat) (cs : List IR) (ls : LV) (x : Int32) (h : MH) : rn 184 μ (.ireturn :: cs) ls [.int x] h = some (some (.int x), h) := by
  rw [rn_fix]; rfl
theorem C_185 (a : Nat) (x0 : Int32) (μ : Nat) (h : MH) (h1 : kd h a = 11) (h2 : 2 ≤ a) (hμ : 4 < μ) : cal 185 [.ref a, .int x0] μ h = rn 185 (4) B_185_0 [some (.ref a), some (.int x0)] [] h := cal_of ⟨hμ, show decide (kd h a = 11 ∧ 2 ≤ a ∧ 11 < 13) = true from decide_eq_true ⟨h1, h2, by decide⟩, rfl, by decide, Nat.le_of_ble_eq_true rfl⟩
theorem R_185 (μ : Nat) (cs : List IR) (ls : LV) (x : Int32) (h : MH) (hx : x = 0 ∨ x = 1) : rn 185 μ (.ireturn :: cs) ls [.int x] h = some (some (.int x), h) := rz_of (by decide +kernel) hx
theorem C_186 (a : Nat) (x0 : Int32) (μ : Nat) (h : MH) (h1 : kd h a = 2) (h2 : 2 ≤ a) (hμ : 3 < μ) : cal 186 [.ref a, .int x0] μ h = rn 186 (3) B_186_0 [some (.ref a), some (.int x0)] [] h := cal_of ⟨hμ, show decide (kd h a = 2 ∧ 2 ≤ a ∧ 2 < 13) = true from decide_eq_true ⟨h1, h2, by decide⟩, rfl, by decide, Nat.le_of_ble_eq_true rfl⟩
theorem T_186_28 : tgt 186 28 = B_186_28 := rfl
theorem T_186_30 : tgt 186 30 = B_186_30 := rfl
theorem R_186 (μ : Nat) (cs : List IR) (ls : LV) (x : Int32) (h : MH) (hx : x = 0 ∨ x = 1) : rn 186 μ (.ireturn :: cs) ls [.int x] h = some (some (.int x), h) := rz_of (by decide +kernel) hx
theorem C_187 (a : Nat) (x0 : Int32) (μ : Nat) (h : MH) (h1 : kd h a = 11) (h2 : 2 ≤ a) (hμ : 4 < μ) : cal 187 [.ref a, .int x0] μ h = rn 187 (4) B_187_0 [some (.ref a), some (.int x0)] [] h := cal_of ⟨hμ, show decide (kd h a = 11 ∧ 2 ≤ a ∧ 11 < 13) = true from decide_eq_true ⟨h1, h2, by decide⟩, rfl, by decide, Nat.le_of_ble_eq_true rfl⟩
theorem T_187_21 : tgt 187 21 = B_187_21 := rfl
theorem T_187_22 : tgt 187 22 = B_187_22 := rfl
theorem R_187 (μ : Nat) (cs : List IR) (ls : LV) (x : Int32) (h : MH) : rn 187 μ (.ireturn :: cs) ls [.int x] h = some (some (.int x), h) := by
  rw [rn_fix]; rfl
theorem C_188 (a : Nat) (x0 : Int32) (μ : Nat) (h : MH) (h1 : kd h a = 2) (h2 : 2 ≤ a) (hμ : 3 < μ) : cal 188 [.ref a, .int x0] μ h = rn 188 (3) B_188_0 [some (.ref a), some (.int x0)] [] h := cal_of ⟨hμ, show decide (kd h a = 2 ∧ 2 ≤ a ∧ 2 < 13) = true from decide_eq_true ⟨h1, h2, by decide⟩, rfl, by decide, Nat.le_of_ble_eq_true rfl⟩
theorem T_188_22 : tgt 188 22 = B_188_22 := rfl
theorem T_188_24 : tgt 188 24 = B_188_24 := rfl
theorem R_188 (μ : Nat) (cs : List IR) (ls : LV) (x : Int32) (h : MH) (hx : x = 0 ∨ x = 1) : rn 188 μ (.ireturn :: cs) ls [.int x] h = some (some (.int x), h) := rz_of (by decide +kernel) hx
theorem C_189 (a : Nat) (x0 : Int32) (x1 : Int32) (x2 : Int32) (μ : Nat) (h : MH) (h1 : kd h a = 11) (h2 : 2 ≤ a) (hμ : 8 < μ) : cal 189 [.ref a, .int x0, .int x1, .int x2] μ h = rn 189 (8) B_189_0 [some (.ref a), some (.int x0), some (.int x1), some (.int x2), none] [] h := cal_of ⟨hμ, show decide (kd h a = 11 ∧ 2 ≤ a ∧ 11 < 13) = true from decide_eq_true ⟨h1, h2, by decide⟩, rfl, by decide, Nat.le_of_ble_eq_true rfl⟩
theorem T_189_23 : tgt 189 23 = B_189_23 := rfl
theorem T_189_25 : tgt 189 25 = B_189_25 := rfl
theorem T_189_56 : tgt 189 56 = B_189_56 := rfl
theorem T_189_69 : tgt 189 69 = B_189_69 := rfl
theorem T_189_74 : tgt 189 74 = B_189_74 := rfl
theorem R_189 (μ : Nat) (cs : List IR) (ls : LV) (x : Int32) (h : MH) : rn 189 μ (.ireturn :: cs) ls [.int x] h = some (some (.int x), h) := by
  rw [rn_fix]; rfl
theorem C_190 (a : Nat) (x0 : Nat) (x1 : Int32) (x2 : Nat) (x3 : Int32) (μ : Nat) (h : MH) (h1 : kd h a = 7) (h2 : 2 ≤ a) (hμ : 7 < μ) : cal 190 [.ref a, .ref x0, .int x1, .ref x2, .int x3] μ h = rn 190 (7) B_190_0 [some (.ref a), some (.ref x0), some (.int x1), some (.ref x2), some (.int x3), none, none, none] [] h := cal_of ⟨hμ, show decide (kd h a = 7 ∧ 2 ≤ a ∧ 7 < 13) = true from decide_eq_true ⟨h1, h2, by decide⟩, rfl, by decide, Nat.le_of_ble_eq_true rfl⟩
theorem T_190_18 : tgt 190 18 = B_190_18 := rfl
theorem T_190_78 : tgt 190 78 = B_190_78 := rfl
theorem T_190_95 : tgt 190 95 = B_190_95 := rfl
theorem T_190_101 : tgt 190 101 = B_190_101 := rfl
theorem R_190 (μ : Nat) (cs : List IR) (ls : LV) (h : MH) : rn 190 μ (.return_ :: cs) ls [] h = some (none, h) := by
  rw [rn_fix]; rfl
theorem C_191 (a : Nat) (x0 : Nat) (x1 : Int32) (x2 : Int32) (x3 : Int32) (μ : Nat) (h : MH) (h1 : kd h a = 2) (h2 : 2 ≤ a) (hμ : 6 < μ) : cal 191 [.ref a, .ref x0, .int x1, .int x2, .int x3] μ h = rn 191 (6) B_191_0 [some (.ref a), some (.ref x0), some (.int x1), some (.int x2), some (.int x3), none] [] h := cal_of ⟨hμ, show decide (kd h a = 2 ∧ 2 ≤ a ∧ 2 < 13) = true from decide_eq_true ⟨h1, h2, by decide⟩, rfl, by decide, Nat.le_of_ble_eq_true rfl⟩
theorem T_191_3 : tgt 191 3 = B_191_3 := rfl
theorem T_191_66 : tgt 191 66 = B_191_66 := rfl
theorem T_191_72 : tgt 191 72 = B_191_72 := rfl
theorem R_191 (μ : Nat) (cs : List IR) (ls : LV) (x : Int32) (h : MH) (hx : x = 0 ∨ x = 1) : rn 191 μ (.ireturn :: cs) ls [.int x] h = some (some (.int x), h) := rz_of (by decide +kernel) hx
theorem C_192 (a : Nat) (x0 : Int32) (x1 : Int32) (μ : Nat) (h : MH) (h1 : kd h a = 2) (h2 : 2 ≤ a) (hμ : 3 < μ) : cal 192 [.ref a, .int x0, .int x1] μ h = rn 192 (3) B_192_0 [some (.ref a), some (.int x0), some (.int x1)] [] h := cal_of ⟨hμ, show decide (kd h a = 2 ∧ 2 ≤ a ∧ 2 < 13) = true from decide_eq_true ⟨h1, h2, by decide⟩, rfl, by decide, Nat.le_of_ble_eq_true rfl⟩
theorem T_192_30 : tgt 192 30 = B_192_30 := rfl
theorem T_192_34 : tgt 192 34 = B_192_34 := rfl
theorem T_192_35 : tgt 192 35 = B_192_35 := rfl
theorem R_192 (μ : Nat) (cs : List IR) (ls : LV) (x : Int32) (h : MH) (hx : x = 0 ∨ x = 1) : rn 192 μ (.ireturn :: cs) ls [.int x] h = some (some (.int x), h) := rz_of (by decide +kernel) hx
theorem C_193 (a : Nat) (μ : Nat) (h : MH) (h1 : kd h a = 7) (h2 : 2 ≤ a) (hμ : 3 < μ) : cal 193 [.ref a] μ h = rn 193 (3) B_193_0 [some (.ref a), none, none] [] h := cal_of ⟨hμ, show decide (kd h a = 7 ∧ 2 ≤ a ∧ 7 < 13) = true from decide_eq_true ⟨h1, h2, by decide⟩, rfl, by decide, Nat.le_of_ble_eq_true rfl⟩
theorem T_193_13 : tgt 193 13 = B_193_13 := rfl
theorem T_193_14 : tgt 193 14 = B_193_14 := rfl
theorem T_193_17 : tgt 193 17 = B_193_17 := rfl
theorem T_193_47 : tgt 193 47 = B_193_47 := rfl
theorem R_193 (μ : Nat) (cs : List IR) (ls : LV) (x : Int32) (h : MH) : rn 193 μ (.ireturn :: cs) ls [.int x] h = some (some (.int x), h) := by
  rw [rn_fix]; rfl
theorem C_194 (a : Nat) (μ : Nat) (h : MH) (h1 : kd h a = 7) (h2 : 2 ≤ a) (hμ : 3 < μ) : cal 194 [.ref a] μ h = rn 194 (3) B_194_0 [some (.ref a), none, none] [] h := cal_of ⟨hμ, show decide (kd h a = 7 ∧ 2 ≤ a ∧ 7 < 13) = true from decide_eq_true ⟨h1, h2, by decide⟩, rfl, by decide, Nat.le_of_ble_eq_true rfl⟩
theorem T_194_4 : tgt 194 4 = B_194_4 := rfl
theorem T_194_34 : tgt 194 34 = B_194_34 := rfl
theorem R_194 (μ : Nat) (cs : List IR) (ls : LV) (x : Int32) (h : MH) : rn 194 μ (.ireturn :: cs) ls [.int x] h = some (some (.int x), h) := by
  rw [rn_fix]; rfl
theorem C_195 (a : Nat) (x0 : Int32) (x1 : Int32) (x2 : Int32) (μ : Nat) (h : MH) (h1 : kd h a = 11) (h2 : 2 ≤ a) (hμ : 8 < μ) : cal 195 [.ref a, .int x0, .int x1, .int x2] μ h = rn 195 (8) B_195_0 [some (.ref a), some (.int x0), some (.int x1), some (.int x2), none] [] h := cal_of ⟨hμ, show decide (kd h a = 11 ∧ 2 ≤ a ∧ 11 < 13) = true from decide_eq_true ⟨h1, h2, by decide⟩, rfl, by decide, Nat.le_of_ble_eq_true rfl⟩
theorem T_195_23 : tgt 195 23 = B_195_23 := rfl
theorem T_195_25 : tgt 195 25 = B_195_25 := rfl
theorem T_195_68 : tgt 195 68 = B_195_68 := rfl
theorem T_195_73 : tgt 195 73 = B_195_73 := rfl
theorem R_195 (μ : Nat) (cs : List IR) (ls : LV) (x : Int32) (h : MH) : rn 195 μ (.ireturn :: cs) ls [.int x] h = some (some (.int x), h) := by
  rw [rn_fix]; rfl
theorem C_196 (a : Nat) (x0 : Nat) (x1 : Int32) (μ : Nat) (h : MH) (h1 : kd h a = 7) (h2 : 2 ≤ a) (hμ : 6 < μ) : cal 196 [.ref a, .ref x0, .int x1] μ h = rn 196 (6) B_196_0 [some (.ref a), some (.ref x0), some (.int x1), none, none, none, none] [] h := cal_of ⟨hμ, show decide (kd h a = 7 ∧ 2 ≤ a ∧ 7 < 13) = true from decide_eq_true ⟨h1, h2, by decide⟩, rfl, by decide, Nat.le_of_ble_eq_true rfl⟩
theorem T_196_18 : tgt 196 18 = B_196_18 := rfl
theorem T_196_42 : tgt 196 42 = B_196_42 := rfl
theorem T_196_104 : tgt 196 104 = B_196_104 := rfl
theorem T_196_110 : tgt 196 110 = B_196_110 := rfl
theorem R_196 (μ : Nat) (cs : List IR) (ls : LV) (h : MH) : rn 196 μ (.return_ :: cs) ls [] h = some (none, h) := by
  rw [rn_fix]; rfl
theorem C_197 (a : Nat) (x0 : Int32) (μ : Nat) (h : MH) (h1 : kd h a = 7) (h2 : 2 ≤ a) (hμ : 3 < μ) : cal 197 [.ref a, .int x0] μ h = rn 197 (3) B_197_0 [some (.ref a), some (.int x0)] [] h := cal_of ⟨hμ, show decide (kd h a = 7 ∧ 2 ≤ a ∧ 7 < 13) = true from decide_eq_true ⟨h1, h2, by decide⟩, rfl, by decide, Nat.le_of_ble_eq_true rfl⟩
theorem T_197_21 : tgt 197 21 = B_197_21 := rfl
theorem T_197_23 : tgt 197 23 = B_197_23 := rfl
theorem R_197 (μ : Nat) (cs : List IR) (ls : LV) (x : Int32) (h : MH) (hx : x = 0 ∨ x = 1) : rn 197 μ (.ireturn :: cs) ls [.int x] h = some (some (.int x), h) := rz_of (by decide +kernel) hx
theorem C_198 (a : Nat) (x0 : Nat) (x1 : Int32) (x2 : Int32) (μ : Nat) (h : MH) (h1 : kd h a = 7) (h2 : 2 ≤ a) (hμ : 5 < μ) : cal 198 [.ref a, .ref x0, .int x1, .int x2] μ h = rn 198 (5) B_198_0 [some (.ref a), some (.ref x0), some (.int x1), some (.int x2), none, none, none] [] h := cal_of ⟨hμ, show decide (kd h a = 7 ∧ 2 ≤ a ∧ 7 < 13) = true from decide_eq_true ⟨h1, h2, by decide⟩, rfl, by decide, Nat.le_of_ble_eq_true rfl⟩
theorem T_198_14 : tgt 198 14 = B_198_14 := rfl
theorem T_198_92 : tgt 198 92 = B_198_92 := rfl
theorem T_198_98 : tgt 198 98 = B_198_98 := rfl
theorem R_198 (μ : Nat) (cs : List IR) (ls : LV) (x : Int32) (h : MH) : rn 198 μ (.ireturn :: cs) ls [.int x] h = some (some (.int x), h) := by
  rw [rn_fix]; rfl
theorem C_199 (a : Nat) (x0 : Int32) (μ : Nat) (h : MH) (h1 : kd h a = 11) (h2 : 2 ≤ a) (hμ : 5 < μ) : cal 199 [.ref a, .int x0] μ h = rn 199 (5) B_199_0 [some (.ref a), some (.int x0)] [] h := cal_of ⟨hμ, show decide (kd h a = 11 ∧ 2 ≤ a ∧ 11 < 13) = true from decide_eq_true ⟨h1, h2, by decide⟩, rfl, by decide, Nat.le_of_ble_eq_true rfl⟩
theorem T_199_21 : tgt 199 21 = B_199_21 := rfl
theorem T_199_22 : tgt 199 22 = B_199_22 := rfl
theorem R_199 (μ : Nat) (cs : List IR) (ls : LV) (x : Int32) (h : MH) : rn 199 μ (.ireturn :: cs) ls [.int x] h = some (some (.int x), h) := by
  rw [rn_fix]; rfl
theorem C_200 (a : Nat) (x0 : Int32) (μ : Nat) (h : MH) (h1 : kd h a = 8) (h2 : 2 ≤ a) (hμ : 4 < μ) : cal 200 [.ref a, .int x0] μ h = rn 200 (4) B_200_0 [some (.ref a), some (.int x0)] [] h := cal_of ⟨hμ, show decide (kd h a = 8 ∧ 2 ≤ a ∧ 8 < 13) = true from decide_eq_true ⟨h1, h2, by decide⟩, rfl, by decide, Nat.le_of_ble_eq_true rfl⟩
theorem T_200_9 : tgt 200 9 = B_200_9 := rfl
theorem T_200_11 : tgt 200 11 = B_200_11 := rfl
theorem R_200 (μ : Nat) (cs : List IR) (ls : LV) (x : Int32) (h : MH) (hx : x = 0 ∨ x = 1) : rn 200 μ (.ireturn :: cs) ls [.int x] h = some (some (.int x), h) := rz_of (by decide +kernel) hx
theorem C_201 (a : Nat) (x0 : Int32) (μ : Nat) (h : MH) (h1 : kd h a = 11) (h2 : 2 ≤ a) (hμ : 5 < μ) : cal 201 [.ref a, .int x0] μ h = rn 201 (5) B_201_0 [some (.ref a), some (.int x0)] [] h := cal_of ⟨hμ, show decide (kd h a = 11 ∧ 2 ≤ a ∧ 11 < 13) = true from decide_eq_true ⟨h1, h2, by decide⟩, rfl, by decide, Nat.le_of_ble_eq_true rfl⟩
theorem T_201_21 : tgt 201 21 = B_201_21 := rfl
theorem T_201_22 : tgt 201 22 = B_201_22 := rfl
theorem R_201 (μ : Nat) (cs : List IR) (ls : LV) (x : Int32) (h : MH) : rn 201 μ (.ireturn :: cs) ls [.int x] h = some (some (.int x), h) := by
  rw [rn_fix]; rfl
theorem C_202 (a : Nat) (x0 : Int32) (μ : Nat) (h : MH) (h1 : kd h a = 8) (h2 : 2 ≤ a) (hμ : 4 < μ) : cal 202 [.ref a, .int x0] μ h = rn 202 (4) B_202_0 [some (.ref a), some (.int x0)] [] h := cal_of ⟨hμ, show decide (kd h a = 8 ∧ 2 ≤ a ∧ 8 < 13) = true from decide_eq_true ⟨h1, h2, by decide⟩, rfl, by decide, Nat.le_of_ble_eq_true rfl⟩
theorem T_202_20 : tgt 202 20 = B_202_20 := rfl
theorem T_202_22 : tgt 202 22 = B_202_22 := rfl
theorem R_202 (μ : Nat) (cs : List IR) (ls : LV) (x : Int32) (h : MH) (hx : x = 0 ∨ x = 1) : rn 202 μ (.ireturn :: cs) ls [.int x] h = some (some (.int x), h) := rz_of (by decide +kernel) hx
theorem C_203 (a : Nat) (x0 : Int32) (μ : Nat) (h : MH) (h1 : kd h a = 11) (h2 : 2 ≤ a) (hμ : 5 < μ) : cal 203 [.ref a, .int x0] μ h = rn 203 (5) B_203_0 [some (.ref a), some (.int x0)] [] h := cal_of ⟨hμ, show decide (kd h a = 11 ∧ 2 ≤ a ∧ 11 < 13) = true from decide_eq_true ⟨h1, h2, by decide⟩, rfl, by decide, Nat.le_of_ble_eq_true rfl⟩
theorem T_203_80 : tgt 203 80 = B_203_80 := rfl
theorem T_203_91 : tgt 203 91 = B_203_91 := rfl
theorem T_203_99 : tgt 203 99 = B_203_99 := rfl
theorem T_203_110 : tgt 203 110 = B_203_110 := rfl
theorem T_203_121 : tgt 203 121 = B_203_121 := rfl
theorem T_203_129 : tgt 203 129 = B_203_129 := rfl
theorem T_203_137 : tgt 203 137 = B_203_137 := rfl
theorem T_203_148 : tgt 203 148 = B_203_148 := rfl
theorem T_203_156 : tgt 203 156 = B_203_156 := rfl
theorem T_203_164 : tgt 203 164 = B_203_164 := rfl
theorem T_203_172 : tgt 203 172 = B_203_172 := rfl
theorem T_203_180 : tgt 203 180 = B_203_180 := rfl
theorem T_203_188 : tgt 203 188 = B_203_188 := rfl
theorem T_203_196 : tgt 203 196 = B_203_196 := rfl
theorem T_203_207 : tgt 203 207 = B_203_207 := rfl
theorem T_203_215 : tgt 203 215 = B_203_215 := rfl
theorem T_203_223 : tgt 203 223 = B_203_223 := rfl
theorem R_203 (μ : Nat) (cs : List IR) (ls : LV) (x : Int32) (h : MH) : rn 203 μ (.ireturn :: cs) ls [.int x] h = some (some (.int x), h) := by
  rw [rn_fix]; rfl
theorem C_204 (a : Nat) (μ : Nat) (h : MH) (h1 : kd h a = 12) (h2 : 2 ≤ a) (hμ : 4 < μ) : cal 204 [.ref a] μ h = rn 204 (4) B_204_0 [some (.ref a)] [] h := cal_of ⟨hμ, show decide (kd h a = 12 ∧ 2 ≤ a ∧ 12 < 13) = true from decide_eq_true ⟨h1, h2, by decide⟩, rfl, by decide, Nat.le_of_ble_eq_true rfl⟩
theorem R_204 (μ : Nat) (cs : List IR) (ls : LV) (h : MH) : rn 204 μ (.return_ :: cs) ls [] h = some (none, h) := by
  rw [rn_fix]; rfl
theorem C_205 (a : Nat) (μ : Nat) (h : MH) (h1 : kd h a = 12) (h2 : 2 ≤ a) (hμ : 3 < μ) : cal 205 [.ref a] μ h = rn 205 (3) B_205_0 [some (.ref a), none] [] h := cal_of ⟨hμ, show decide (kd h a = 12 ∧ 2 ≤ a ∧ 12 < 13) = true from decide_eq_true ⟨h1, h2, by decide⟩, rfl, by decide, Nat.le_of_ble_eq_true rfl⟩
theorem T_205_12 : tgt 205 12 = B_205_12 := rfl
theorem T_205_33 : tgt 205 33 = B_205_33 := rfl
theorem T_205_35 : tgt 205 35 = B_205_35 := rfl
theorem T_205_57 : tgt 205 57 = B_205_57 := rfl
theorem R_205 (μ : Nat) (cs : List IR) (ls : LV) (h : MH) : rn 205 μ (.return_ :: cs) ls [] h = some (none, h) := by
  rw [rn_fix]; rfl
theorem C_206 (a : Nat) (x0 : Int32) (x1 : Int32) (x2 : Int32) (x3 : Int32) (x4 : Int32) (μ : Nat) (h : MH) (h1 : kd h a = 12) (h2 : 2 ≤ a) (hμ : 4 < μ) : cal 206 [.ref a, .int x0, .int x1, .int x2, .int x3, .int x4] μ h = rn 206 (4) B_206_0 [some (.ref a), some (.int x0), some (.int x1), some (.int x2), some (.int x3), some (.int x4)] [] h := cal_of ⟨hμ, show decide (kd h a = 12 ∧ 2 ≤ a ∧ 12 < 13) = true from decide_eq_true ⟨h1, h2, by decide⟩, rfl, by decide, Nat.le_of_ble_eq_true rfl⟩
theorem T_206_15 : tgt 206 15 = B_206_15 := rfl
theorem R_206 (μ : Nat) (cs : List IR) (ls : LV) (x : Int32) (h : MH) : rn 206 μ (.ireturn :: cs) ls [.int x] h = some (some (.int x), h) := by
  rw [rn_fix]; rfl
theorem C_207 (a : Nat) (x0 : Int32) (μ : Nat) (h : MH) (h1 : kd h a = 12) (h2 : 2 ≤ a) (hμ : 3 < μ) : cal 207 [.ref a, .int x0] μ h = rn 207 (3) B_207_0 [some (.ref a), some (.int x0), none] [] h := cal_of ⟨hμ, show decide (kd h a = 12 ∧ 2 ≤ a ∧ 12 < 13) = true from decide_eq_true ⟨h1, h2, by decide⟩, rfl, by decide, Nat.le_of_ble_eq_true rfl⟩
theorem T_207_3 : tgt 207 3 = B_207_3 := rfl
theorem T_207_39 : tgt 207 39 = B_207_39 := rfl
theorem R_207 (μ : Nat) (cs : List IR) (ls : LV) (h : MH) : rn 207 μ (.return_ :: cs) ls [] h = some (none, h) := by
  rw [rn_fix]; rfl
theorem C_208 (a : Nat) (x0 : Int32) (μ : Nat) (h : MH) (h1 : kd h a = 12) (h2 : 2 ≤ a) (hμ : 3 < μ) : cal 208 [.ref a, .int x0] μ h = rn 208 (3) B_208_0 [some (.ref a), some (.int x0)] [] h := cal_of ⟨hμ, show decide (kd h a = 12 ∧ 2 ≤ a ∧ 12 < 13) = true from decide_eq_true ⟨h1, h2, by decide⟩, rfl, by decide, Nat.le_of_ble_eq_true rfl⟩
theorem T_208_12 : tgt 208 12 = B_208_12 := rfl
theorem T_208_14 : tgt 208 14 = B_208_14 := rfl
theorem R_208 (μ : Nat) (cs : List IR) (ls : LV) (x : Int32) (h : MH) : rn 208 μ (.ireturn :: cs) ls [.int x] h = some (some (.int x), h) := by
  rw [rn_fix]; rfl
theorem C_209 (a : Nat) (μ : Nat) (h : MH) (h1 : kd h a = 12) (h2 : 2 ≤ a) (hμ : 11 < μ) : cal 209 [.ref a] μ h = rn 209 (11) B_209_0 [some (.ref a), none, none] [] h := cal_of ⟨hμ, show decide (kd h a = 12 ∧ 2 ≤ a ∧ 12 < 13) = true from decide_eq_true ⟨h1, h2, by decide⟩, rfl, by decide, Nat.le_of_ble_eq_true rfl⟩
theorem T_209_13 : tgt 209 13 = B_209_13 := rfl
theorem T_209_100 : tgt 209 100 = B_209_100 := rfl
theorem T_209_101 : tgt 209 101 = B_209_101 := rfl
theorem T_209_119 : tgt 209 119 = B_209_119 := rfl
theorem T_209_142 : tgt 209 142 = B_209_142 := rfl
theorem T_209_144 : tgt 209 144 = B_209_144 := rfl
theorem T_209_173 : tgt 209 173 = B_209_173 := rfl
theorem T_209_175 : tgt 209 175 = B_209_175 := rfl
theorem T_209_199 : tgt 209 199 = B_209_199 := rfl
theorem T_209_245 : tgt 209 245 = B_209_245 := rfl
theorem T_209_251 : tgt 209 251 = B_209_251 := rfl
theorem T_209_253 : tgt 209 253 = B_209_253 := rfl
theorem T_209_283 : tgt 209 283 = B_209_283 := rfl
theorem T_209_285 : tgt 209 285 = B_209_285 := rfl
theorem T_209_376 : tgt 209 376 = B_209_376 := rfl
theorem T_209_382 : tgt 209 382 = B_209_382 := rfl
theorem T_209_419 : tgt 209 419 = B_209_419 := rfl
theorem T_209_448 : tgt 209 448 = B_209_448 := rfl
theorem T_209_449 : tgt 209 449 = B_209_449 := rfl
theorem T_209_466 : tgt 209 466 = B_209_466 := rfl
theorem T_209_493 : tgt 209 493 = B_209_493 := rfl
theorem T_209_511 : tgt 209 511 = B_209_511 := rfl
theorem R_209 (μ : Nat) (cs : List IR) (ls : LV) (x : Int32) (h : MH) : rn 209 μ (.ireturn :: cs) ls [.int x] h = some (some (.int x), h) := by
  rw [rn_fix]; rfl
theorem C_210 (a : Nat) (μ : Nat) (h : MH) (h1 : kd h a = 12) (h2 : 2 ≤ a) (hμ : 10 < μ) : cal 210 [.ref a] μ h = rn 210 (10) B_210_0 [some (.ref a)] [] h := cal_of ⟨hμ, show decide (kd h a = 12 ∧ 2 ≤ a ∧ 12 < 13) = true from decide_eq_true ⟨h1, h2, by decide⟩, rfl, by decide, Nat.le_of_ble_eq_true rfl⟩
theorem T_210_87 : tgt 210 87 = B_210_87 := rfl
theorem T_210_108 : tgt 210 108 = B_210_108 := rfl
theorem R_210 (μ : Nat) (cs : List IR) (ls : LV) (h : MH) : rn 210 μ (.return_ :: cs) ls [] h = some (none, h) := by
  rw [rn_fix]; rfl
theorem C_211 (a : Nat) (μ : Nat) (h : MH) (h1 : kd h a = 12) (h2 : 2 ≤ a) (hμ : 4 < μ) : cal 211 [.ref a] μ h = rn 211 (4) B_211_0 [some (.ref a), none, none] [] h := cal_of ⟨hμ, show decide (kd h a = 12 ∧ 2 ≤ a ∧ 12 < 13) = true from decide_eq_true ⟨h1, h2, by decide⟩, rfl, by decide, Nat.le_of_ble_eq_true rfl⟩
theorem T_211_20 : tgt 211 20 = B_211_20 := rfl
theorem T_211_33 : tgt 211 33 = B_211_33 := rfl
theorem T_211_71 : tgt 211 71 = B_211_71 := rfl
theorem T_211_78 : tgt 211 78 = B_211_78 := rfl
theorem T_211_113 : tgt 211 113 = B_211_113 := rfl
theorem T_211_119 : tgt 211 119 = B_211_119 := rfl
theorem T_211_130 : tgt 211 130 = B_211_130 := rfl
theorem T_211_131 : tgt 211 131 = B_211_131 := rfl
theorem T_211_137 : tgt 211 137 = B_211_137 := rfl
theorem T_211_144 : tgt 211 144 = B_211_144 := rfl
theorem T_211_180 : tgt 211 180 = B_211_180 := rfl
theorem T_211_186 : tgt 211 186 = B_211_186 := rfl
theorem T_211_203 : tgt 211 203 = B_211_203 := rfl
theorem T_211_207 : tgt 211 207 = B_211_207 := rfl
theorem T_211_208 : tgt 211 208 = B_211_208 := rfl
theorem T_211_214 : tgt 211 214 = B_211_214 := rfl
theorem T_211_228 : tgt 211 228 = B_211_228 := rfl
theorem T_211_229 : tgt 211 229 = B_211_229 := rfl
theorem T_211_232 : tgt 211 232 = B_211_232 := rfl
theorem T_211_250 : tgt 211 250 = B_211_250 := rfl
theorem R_211 (μ : Nat) (cs : List IR) (ls : LV) (h : MH) : rn 211 μ (.return_ :: cs) ls [] h = some (none, h) := by
  rw [rn_fix]; rfl
theorem C_212 (a : Nat) (x0 : Int32) (μ : Nat) (h : MH) (h1 : kd h a = 12) (h2 : 2 ≤ a) (hμ : 3 < μ) : cal 212 [.ref a, .int x0] μ h = rn 212 (3) B_212_0 [some (.ref a), some (.int x0)] [] h := cal_of ⟨hμ, show decide (kd h a = 12 ∧ 2 ≤ a ∧ 12 < 13) = true from decide_eq_true ⟨h1, h2, by decide⟩, rfl, by decide, Nat.le_of_ble_eq_true rfl⟩
theorem T_212_27 : tgt 212 27 = B_212_27 := rfl
theorem T_212_28 : tgt 212 28 = B_212_28 := rfl
theorem R_212 (μ : Nat) (cs : List IR) (ls : LV) (x : Int32) (h : MH) : rn 212 μ (.ireturn :: cs) ls [.int x] h = some (some (.int x), h) := by
  rw [rn_fix]; rfl
theorem C_213 (x0 : Int32) (μ : Nat) (h : MH)  (hμ : 3 < μ) : cal 213 [.int x0] μ h = rn 213 (3) B_213_0 [some (.int x0)] [] h := cal_of ⟨hμ, rfl, rfl, by decide, Nat.le_of_ble_eq_true rfl⟩
theorem T_213_16 : tgt 213 16 = B_213_16 := rfl
theorem T_213_17 : tgt 213 17 = B_213_17 := rfl
theorem R_213 (μ : Nat) (cs : List IR) (ls : LV) (x : Int32) (h : MH) (hx : x = 0 ∨ x = 1) : rn 213 μ (.ireturn :: cs) ls [.int x] h = some (some (.int x), h) := rz_of (by decide +kernel) hx
theorem C_214 (x0 : Int32) (μ : Nat) (h : MH)  (hμ : 3 < μ) : cal 214 [.int x0] μ h = rn 214 (3) B_214_0 [some (.int x0)] [] h := cal_of ⟨hμ, rfl, rfl, by decide, Nat.le_of_ble_eq_true rfl⟩
theorem T_214_16 : tgt 214 16 = B_214_16 := rfl
theorem T_214_17 : tgt 214 17 = B_214_17 := rfl
theorem R_214 (μ : Nat) (cs : List IR) (ls : LV) (x : Int32) (h : MH) (hx : x = 0 ∨ x = 1) : rn 214 μ (.ireturn :: cs) ls [.int x] h = some (some (.int x), h) := rz_of (by decide +kernel) hx
theorem C_215 (x0 : Int32) (μ : Nat) (h : MH)  (hμ : 3 < μ) : cal 215 [.int x0] μ h = rn 215 (3) B_215_0 [some (.int x0)] [] h := cal_of ⟨hμ, rfl, rfl, by decide, Nat.le_of_ble_eq_true rfl⟩
theorem T_215_66 : tgt 215 66 = B_215_66 := rfl
theorem T_215_70 : tgt 215 70 = B_215_70 := rfl
theorem T_215_71 : tgt 215 71 = B_215_71 := rfl
theorem R_215 (μ : Nat) (cs : List IR) (ls : LV) (x : Int32) (h : MH) (hx : x = 0 ∨ x = 1) : rn 215 μ (.ireturn :: cs) ls [.int x] h = some (some (.int x), h) := rz_of (by decide +kernel) hx
theorem C_216 (a : Nat) (μ : Nat) (h : MH) (h1 : kd h a = 12) (h2 : 2 ≤ a) (hμ : 9 < μ) : cal 216 [.ref a] μ h = rn 216 (9) B_216_0 [some (.ref a)] [] h := cal_of ⟨hμ, show decide (kd h a = 12 ∧ 2 ≤ a ∧ 12 < 13) = true from decide_eq_true ⟨h1, h2, by decide⟩, rfl, by decide, Nat.le_of_ble_eq_true rfl⟩
theorem T_216_25 : tgt 216 25 = B_216_25 := rfl
theorem T_216_50 : tgt 216 50 = B_216_50 := rfl
theorem T_216_76 : tgt 216 76 = B_216_76 := rfl
theorem T_216_104 : tgt 216 104 = B_216_104 := rfl
theorem T_216_142 : tgt 216 142 = B_216_142 := rfl
theorem T_216_180 : tgt 216 180 = B_216_180 := rfl
theorem T_216_221 : tgt 216 221 = B_216_221 := rfl
theorem T_216_226 : tgt 216 226 = B_216_226 := rfl
theorem T_216_247 : tgt 216 247 = B_216_247 := rfl
theorem T_216_258 : tgt 216 258 = B_216_258 := rfl
theorem R_216 (μ : Nat) (cs : List IR) (ls : LV) (h : MH) : rn 216 μ (.return_ :: cs) ls [] h = some (none, h) := by
  rw [rn_fix]; rfl
theorem C_217 (a : Nat) (x0 : Int64) (μ : Nat) (h : MH) (h1 : kd h a = 12) (h2 : 2 ≤ a) (hμ : 3 < μ) : cal 217 [.ref a, .long x0] μ h = rn 217 (3) B_217_0 [some (.ref a), some (.long x0), none] [] h := cal_of ⟨hμ, show decide (kd h a = 12 ∧ 2 ≤ a ∧ 12 < 13) = true from decide_eq_true ⟨h1, h2, by decide⟩, rfl, by decide, Nat.le_of_ble_eq_true rfl⟩
theorem T_217_21 : tgt 217 21 = B_217_21 := rfl
theorem T_217_22 : tgt 217 22 = B_217_22 := rfl
theorem R_217 (μ : Nat) (cs : List IR) (ls : LV) (x : Int32) (h : MH) (hx : x = 0 ∨ x = 1) : rn 217 μ (.ireturn :: cs) ls [.int x] h = some (some (.int x), h) := rz_of (by decide +kernel) hx
theorem C_218 (a : Nat) (μ : Nat) (h : MH) (h1 : kd h a = 12) (h2 : 2 ≤ a) (hμ : 6 < μ) : cal 218 [.ref a] μ h = rn 218 (6) B_218_0 [some (.ref a)] [] h := cal_of ⟨hμ, show decide (kd h a = 12 ∧ 2 ≤ a ∧ 12 < 13) = true from decide_eq_true ⟨h1, h2, by decide⟩, rfl, by decide, Nat.le_of_ble_eq_true rfl⟩
theorem T_218_41 : tgt 218 41 = B_218_41 := rfl
theorem R_218 (μ : Nat) (cs : List IR) (ls : LV) (h : MH) : rn 218 μ (.return_ :: cs) ls [] h = some (none, h) := by
  rw [rn_fix]; rfl
theorem C_219 (a : Nat) (x0 : Int32) (x1 : Int32) (μ : Nat) (h : MH) (h1 : kd h a = 12) (h2 : 2 ≤ a) (hμ : 5 < μ) : cal 219 [.ref a, .int x0, .int x1] μ h = rn 219 (5) B_219_0 [some (.ref a), some (.int x0), some (.int x1)] [] h := cal_of ⟨hμ, show decide (kd h a = 12 ∧ 2 ≤ a ∧ 12 < 13) = true from decide_eq_true ⟨h1, h2, by decide⟩, rfl, by decide, Nat.le_of_ble_eq_true rfl⟩
theorem T_219_19 : tgt 219 19 = B_219_19 := rfl
theorem T_219_33 : tgt 219 33 = B_219_33 := rfl
theorem T_219_41 : tgt 219 41 = B_219_41 := rfl
theorem R_219 (μ : Nat) (cs : List IR) (ls : LV) (h : MH) : rn 219 μ (.return_ :: cs) ls [] h = some (none, h) := by
  rw [rn_fix]; rfl
theorem C_220 (a : Nat) (μ : Nat) (h : MH) (h1 : kd h a = 12) (h2 : 2 ≤ a) (hμ : 4 < μ) : cal 220 [.ref a] μ h = rn 220 (4) B_220_0 [some (.ref a)] [] h := cal_of ⟨hμ, show decide (kd h a = 12 ∧ 2 ≤ a ∧ 12 < 13) = true from decide_eq_true ⟨h1, h2, by decide⟩, rfl, by decide, Nat.le_of_ble_eq_true rfl⟩
theorem T_220_19 : tgt 220 19 = B_220_19 := rfl
theorem T_220_20 : tgt 220 20 = B_220_20 := rfl
theorem R_220 (μ : Nat) (cs : List IR) (ls : LV) (x : Int32) (h : MH) (hx : x = 0 ∨ x = 1) : rn 220 μ (.ireturn :: cs) ls [.int x] h = some (some (.int x), h) := rz_of (by decide +kernel) hx
theorem C_221 (a : Nat) (μ : Nat) (h : MH) (h1 : kd h a = 12) (h2 : 2 ≤ a) (hμ : 3 < μ) : cal 221 [.ref a] μ h = rn 221 (3) B_221_0 [some (.ref a)] [] h := cal_of ⟨hμ, show decide (kd h a = 12 ∧ 2 ≤ a ∧ 12 < 13) = true from decide_eq_true ⟨h1, h2, by decide⟩, rfl, by decide, Nat.le_of_ble_eq_true rfl⟩
theorem T_221_220 : tgt 221 220 = B_221_220 := rfl
theorem T_221_224 : tgt 221 224 = B_221_224 := rfl
theorem T_221_225 : tgt 221 225 = B_221_225 := rfl
theorem R_221 (μ : Nat) (cs : List IR) (ls : LV) (x : Int32) (h : MH) (hx : x = 0 ∨ x = 1) : rn 221 μ (.ireturn :: cs) ls [.int x] h = some (some (.int x), h) := rz_of (by decide +kernel) hx
theorem C_222 (a : Nat) (x0 : Int32) (μ : Nat) (h : MH) (h1 : kd h a = 12) (h2 : 2 ≤ a) (hμ : 3 < μ) : cal 222 [.ref a, .int x0] μ h = rn 222 (3) B_222_0 [some (.ref a), some (.int x0)] [] h := cal_of ⟨hμ, show decide (kd h a = 12 ∧ 2 ≤ a ∧ 12 < 13) = true from decide_eq_true ⟨h1, h2, by decide⟩, rfl, by decide, Nat.le_of_ble_eq_true rfl⟩
theorem T_222_8 : tgt 222 8 = B_222_8 := rfl
theorem T_222_21 : tgt 222 21 = B_222_21 := rfl
theorem T_222_22 : tgt 222 22 = B_222_22 := rfl
theorem R_222 (μ : Nat) (cs : List IR) (ls : LV) (h : MH) : rn 222 μ (.return_ :: cs) ls [] h = some (none, h) := by
  rw [rn_fix]; rfl
theorem C_223 (a : Nat) (x0 : Int32) (x1 : Int32) (μ : Nat) (h : MH) (h1 : kd h a = 12) (h2 : 2 ≤ a) (hμ : 3 < μ) : cal 223 [.ref a, .int x0, .int x1] μ h = rn 223 (3) B_223_0 [some (.ref a), some (.int x0), some (.int x1), none, none] [] h := cal_of ⟨hμ, show decide (kd h a = 12 ∧ 2 ≤ a ∧ 12 < 13) = true from decide_eq_true ⟨h1, h2, by decide⟩, rfl, by decide, Nat.le_of_ble_eq_true rfl⟩
theorem T_223_5 : tgt 223 5 = B_223_5 := rfl
theorem T_223_33 : tgt 223 33 = B_223_33 := rfl
theorem T_223_34 : tgt 223 34 = B_223_34 := rfl
theorem T_223_41 : tgt 223 41 = B_223_41 := rfl
theorem R_223 (μ : Nat) (cs : List IR) (ls : LV) (x : Int32) (h : MH) : rn 223 μ (.ireturn :: cs) ls [.int x] h = some (some (.int x), h) := by
  rw [rn_fix]; rfl
theorem C_224 (a : Nat) (x0 : Int32) (x1 : Int32) (μ : Nat) (h : MH) (h1 : kd h a = 12) (h2 : 2 ≤ a) (hμ : 5 < μ) : cal 224 [.ref a, .int x0, .int x1] μ h = rn 224 (5) B_224_0 [some (.ref a), some (.int x0), some (.int x1), none] [] h := cal_of ⟨hμ, show decide (kd h a = 12 ∧ 2 ≤ a ∧ 12 < 13) = true from decide_eq_true ⟨h1, h2, by decide⟩, rfl, by decide, Nat.le_of_ble_eq_true rfl⟩
theorem T_224_9 : tgt 224 9 = B_224_9 := rfl
theorem T_224_25 : tgt 224 25 = B_224_25 := rfl
theorem T_224_41 : tgt 224 41 = B_224_41 := rfl
theorem T_224_46 : tgt 224 46 = B_224_46 := rfl
theorem T_224_62 : tgt 224 62 = B_224_62 := rfl
theorem R_224 (μ : Nat) (cs : List IR) (ls : LV) (x : Int32) (h : MH) : rn 224 μ (.ireturn :: cs) ls [.int x] h = some (some (.int x), h) := by
  rw [rn_fix]; rfl
theorem C_225 (a : Nat) (μ : Nat) (h : MH) (h1 : kd h a = 12) (h2 : 2 ≤ a) (hμ : 6 < μ) : cal 225 [.ref a] μ h = rn 225 (6) B_225_0 [some (.ref a)] [] h := cal_of ⟨hμ, show decide (kd h a = 12 ∧ 2 ≤ a ∧ 12 < 13) = true from decide_eq_true ⟨h1, h2, by decide⟩, rfl, by decide, Nat.le_of_ble_eq_true rfl⟩
theorem T_225_17 : tgt 225 17 = B_225_17 := rfl
theorem T_225_39 : tgt 225 39 = B_225_39 := rfl
theorem T_225_53 : tgt 225 53 = B_225_53 := rfl
theorem T_225_54 : tgt 225 54 = B_225_54 := rfl
theorem R_225 (μ : Nat) (cs : List IR) (ls : LV) (h : MH) : rn 225 μ (.return_ :: cs) ls [] h = some (none, h) := by
  rw [rn_fix]; rfl
theorem C_226 (a : Nat) (x0 : Int64) (μ : Nat) (h : MH) (h1 : kd h a = 12) (h2 : 2 ≤ a) (hμ : 5 < μ) : cal 226 [.ref a, .long x0] μ h = rn 226 (5) B_226_0 [some (.ref a), some (.long x0), none, none] [] h := cal_of ⟨hμ, show decide (kd h a = 12 ∧ 2 ≤ a ∧ 12 < 13) = true from decide_eq_true ⟨h1, h2, by decide⟩, rfl, by decide, Nat.le_of_ble_eq_true rfl⟩
theorem T_226_19 : tgt 226 19 = B_226_19 := rfl
theorem T_226_20 : tgt 226 20 = B_226_20 := rfl
theorem T_226_29 : tgt 226 29 = B_226_29 := rfl
theorem R_226 (μ : Nat) (cs : List IR) (ls : LV) (x : Int32) (h : MH) (hx : x = 0 ∨ x = 1) : rn 226 μ (.ireturn :: cs) ls [.int x] h = some (some (.int x), h) := rz_of (by decide +kernel) hx
theorem C_227 (a : Nat) (μ : Nat) (h : MH) (h1 : kd h a = 12) (h2 : 2 ≤ a) (hμ : 8 < μ) : cal 227 [.ref a] μ h = rn 227 (8) B_227_0 [some (.ref a), none, none] [] h := cal_of ⟨hμ, show decide (kd h a = 12 ∧ 2 ≤ a ∧ 12 < 13) = true from decide_eq_true ⟨h1, h2, by decide⟩, rfl, by decide, Nat.le_of_ble_eq_true rfl⟩
theorem T_227_48 : tgt 227 48 = B_227_48 := rfl
theorem T_227_87 : tgt 227 87 = B_227_87 := rfl
theorem T_227_148 : tgt 227 148 = B_227_148 := rfl
theorem T_227_152 : tgt 227 152 = B_227_152 := rfl
theorem T_227_153 : tgt 227 153 = B_227_153 := rfl
theorem T_227_166 : tgt 227 166 = B_227_166 := rfl
theorem T_227_185 : tgt 227 185 = B_227_185 := rfl
theorem T_227_202 : tgt 227 202 = B_227_202 := rfl
theorem R_227 (μ : Nat) (cs : List IR) (ls : LV) (h : MH) : rn 227 μ (.return_ :: cs) ls [] h = some (none, h) := by
  rw [rn_fix]; rfl
theorem C_228 (a : Nat) (x0 : Int64) (μ : Nat) (h : MH) (h1 : kd h a = 12) (h2 : 2 ≤ a) (hμ : 5 < μ) : cal 228 [.ref a, .long x0] μ h = rn 228 (5) B_228_0 [some (.ref a), some (.long x0), none] [] h := cal_of ⟨hμ, show decide (kd h a = 12 ∧ 2 ≤ a ∧ 12 < 13) = true from decide_eq_true ⟨h1, h2, by decide⟩, rfl, by decide, Nat.le_of_ble_eq_true rfl⟩
theorem T_228_8 : tgt 228 8 = B_228_8 := rfl
theorem T_228_24 : tgt 228 24 = B_228_24 := rfl
theorem T_228_28 : tgt 228 28 = B_228_28 := rfl
theorem R_228 (μ : Nat) (cs : List IR) (ls : LV) (h : MH) : rn 228 μ (.return_ :: cs) ls [] h = some (none, h) := by
  rw [rn_fix]; rfl
theorem C_229 (a : Nat) (x0 : Int32) (x1 : Int32) (μ : Nat) (h : MH) (h1 : kd h a = 12) (h2 : 2 ≤ a) (hμ : 5 < μ) : cal 229 [.ref a, .int x0, .int x1] μ h = rn 229 (5) B_229_0 [some (.ref a), some (.int x0), some (.int x1)] [] h := cal_of ⟨hμ, show decide (kd h a = 12 ∧ 2 ≤ a ∧ 12 < 13) = true from decide_eq_true ⟨h1, h2, by decide⟩, rfl, by decide, Nat.le_of_ble_eq_true rfl⟩
theorem T_229_9 : tgt 229 9 = B_229_9 := rfl
theorem T_229_24 : tgt 229 24 = B_229_24 := rfl
theorem T_229_38 : tgt 229 38 = B_229_38 := rfl
theorem T_229_49 : tgt 229 49 = B_229_49 := rfl
theorem T_229_55 : tgt 229 55 = B_229_55 := rfl
theorem R_229 (μ : Nat) (cs : List IR) (ls : LV) (x : Int32) (h : MH) : rn 229 μ (.ireturn :: cs) ls [.int x] h = some (some (.int x), h) := by
  rw [rn_fix]; rfl
theorem C_230 (a : Nat) (x0 : Int64) (x1 : Int32) (x2 : Int32) (μ : Nat) (h : MH) (h1 : kd h a = 12) (h2 : 2 ≤ a) (hμ : 6 < μ) : cal 230 [.ref a, .long x0, .int x1, .int x2] μ h = rn 230 (6) B_230_0 [some (.ref a), some (.long x0), none, some (.int x1), some (.int x2)] [] h := cal_of ⟨hμ, show decide (kd h a = 12 ∧ 2 ≤ a ∧ 12 < 13) = true from decide_eq_true ⟨h1, h2, by decide⟩, rfl, by decide, Nat.le_of_ble_eq_true rfl⟩
theorem R_230 (μ : Nat) (cs : List IR) (ls : LV) (x : Int32) (h : MH) : rn 230 μ (.ireturn :: cs) ls [.int x] h = some (some (.int x), h) := by
  rw [rn_fix]; rfl
theorem C_231 (a : Nat) (x0 : Int32) (μ : Nat) (h : MH) (h1 : kd h a = 12) (h2 : 2 ≤ a) (hμ : 6 < μ) : cal 231 [.ref a, .int x0] μ h = rn 231 (6) B_231_0 [some (.ref a), some (.int x0), none, none, none, none] [] h := cal_of ⟨hμ, show decide (kd h a = 12 ∧ 2 ≤ a ∧ 12 < 13) = true from decide_eq_true ⟨h1, h2, by decide⟩, rfl, by decide, Nat.le_of_ble_eq_true rfl⟩
theorem T_231_24 : tgt 231 24 = B_231_24 := rfl
theorem T_231_41 : tgt 231 41 = B_231_41 := rfl
theorem T_231_45 : tgt 231 45 = B_231_45 := rfl
theorem T_231_57 : tgt 231 57 = B_231_57 := rfl
theorem T_231_65 : tgt 231 65 = B_231_65 := rfl
theorem T_231_88 : tgt 231 88 = B_231_88 := rfl
theorem T_231_98 : tgt 231 98 = B_231_98 := rfl
theorem T_231_103 : tgt 231 103 = B_231_103 := rfl
theorem T_231_122 : tgt 231 122 = B_231_122 := rfl
theorem T_231_130 : tgt 231 130 = B_231_130 := rfl
theorem T_231_193 : tgt 231 193 = B_231_193 := rfl
theorem T_231_201 : tgt 231 201 = B_231_201 := rfl
theorem T_231_225 : tgt 231 225 = B_231_225 := rfl
theorem T_231_249 : tgt 231 249 = B_231_249 := rfl
theorem T_231_262 : tgt 231 262 = B_231_262 := rfl
theorem R_231 (μ : Nat) (cs : List IR) (ls : LV) (h : MH) : rn 231 μ (.return_ :: cs) ls [] h = some (none, h) := by
  rw [rn_fix]; rfl
theorem C_232 (a : Nat) (x0 : Int32) (μ : Nat) (h : MH) (h1 : kd h a = 12) (h2 : 2 ≤ a) (hμ : 7 < μ) : cal 232 [.ref a, .int x0] μ h = rn 232 (7) B_232_0 [some (.ref a), some (.int x0), none, none] [] h := cal_of ⟨hμ, show decide (kd h a = 12 ∧ 2 ≤ a ∧ 12 < 13) = true from decide_eq_true ⟨h1, h2, by decide⟩, rfl, by decide, Nat.le_of_ble_eq_true rfl⟩
theorem T_232_36 : tgt 232 36 = B_232_36 := rfl
theorem T_232_100 : tgt 232 100 = B_232_100 := rfl
theorem T_232_119 : tgt 232 119 = B_232_119 := rfl
theorem T_232_158 : tgt 232 158 = B_232_158 := rfl
theorem T_232_160 : tgt 232 160 = B_232_160 := rfl
theorem T_232_163 : tgt 232 163 = B_232_163 := rfl
theorem T_232_182 : tgt 232 182 = B_232_182 := rfl
theorem T_232_194 : tgt 232 194 = B_232_194 := rfl
theorem R_232 (μ : Nat) (cs : List IR) (ls : LV) (h : MH) : rn 232 μ (.return_ :: cs) ls [] h = some (none, h) := by
  rw [rn_fix]; rfl
theorem C_233 (a : Nat) (μ : Nat) (h : MH) (h1 : kd h a = 12) (h2 : 2 ≤ a) (hμ : 6 < μ) : cal 233 [.ref a] μ h = rn 233 (6) B_233_0 [some (.ref a), none] [] h := cal_of ⟨hμ, show decide (kd h a = 12 ∧ 2 ≤ a ∧ 12 < 13) = true from decide_eq_true ⟨h1, h2, by decide⟩, rfl, by decide, Nat.le_of_ble_eq_true rfl⟩
theorem T_233_2 : tgt 233 2 = B_233_2 := rfl
theorem T_233_44 : tgt 233 44 = B_233_44 := rfl
theorem T_233_53 : tgt 233 53 = B_233_53 := rfl
theorem T_233_78 : tgt 233 78 = B_233_78 := rfl
theorem T_233_83 : tgt 233 83 = B_233_83 := rfl
theorem T_233_96 : tgt 233 96 = B_233_96 := rfl
theorem T_233_101 : tgt 233 101 = B_233_101 := rfl
theorem T_233_109 : tgt 233 109 = B_233_109 := rfl
theorem T_233_124 : tgt 233 124 = B_233_124 := rfl
theorem T_233_131 : tgt 233 131 = B_233_131 := rfl
theorem T_233_139 : tgt 233 139 = B_233_139 := rfl
theorem T_233_164 : tgt 233 164 = B_233_164 := rfl
theorem T_233_172 : tgt 233 172 = B_233_172 := rfl
theorem T_233_189 : tgt 233 189 = B_233_189 := rfl
theorem T_233_190 : tgt 233 190 = B_233_190 := rfl
theorem T_233_205 : tgt 233 205 = B_233_205 := rfl
theorem T_233_214 : tgt 233 214 = B_233_214 := rfl
theorem R_233 (μ : Nat) (cs : List IR) (ls : LV) (h : MH) : rn 233 μ (.return_ :: cs) ls [] h = some (none, h) := by
  rw [rn_fix]; rfl
theorem C_234 (a : Nat) (μ : Nat) (h : MH) (h1 : kd h a = 12) (h2 : 2 ≤ a) (hμ : 4 < μ) : cal 234 [.ref a] μ h = rn 234 (4) B_234_0 [some (.ref a)] [] h := cal_of ⟨hμ, show decide (kd h a = 12 ∧ 2 ≤ a ∧ 12 < 13) = true from decide_eq_true ⟨h1, h2, by decide⟩, rfl, by decide, Nat.le_of_ble_eq_true rfl⟩
theorem T_234_41 : tgt 234 41 = B_234_41 := rfl
theorem T_234_45 : tgt 234 45 = B_234_45 := rfl
theorem T_234_46 : tgt 234 46 = B_234_46 := rfl
theorem R_234 (μ : Nat) (cs : List IR) (ls : LV) (x : Int32) (h : MH) (hx : x = 0 ∨ x = 1) : rn 234 μ (.ireturn :: cs) ls [.int x] h = some (some (.int x), h) := rz_of (by decide +kernel) hx
theorem C_235 (x0 : Int32) (μ : Nat) (h : MH)  (hμ : 3 < μ) : cal 235 [.int x0] μ h = rn 235 (3) B_235_0 [some (.int x0)] [] h := cal_of ⟨hμ, rfl, rfl, by decide, Nat.le_of_ble_eq_true rfl⟩
theorem T_235_76 : tgt 235 76 = B_235_76 := rfl
theorem T_235_78 : tgt 235 78 = B_235_78 := rfl
theorem T_235_80 : tgt 235 80 = B_235_80 := rfl
theorem T_235_82 : tgt 235 82 = B_235_82 := rfl
theorem T_235_84 : tgt 235 84 = B_235_84 := rfl
theorem T_235_86 : tgt 235 86 = B_235_86 := rfl
theorem R_235 (μ : Nat) (cs : List IR) (ls : LV) (x : Int32) (h : MH) : rn 235 μ (.ireturn :: cs) ls [.int x] h = some (some (.int x), h) := by
  rw [rn_fix]; rfl
theorem C_236 (a : Nat) (x0 : Int32) (μ : Nat) (h : MH) (h1 : kd h a = 12) (h2 : 2 ≤ a) (hμ : 5 < μ) : cal 236 [.ref a, .int x0] μ h = rn 236 (5) B_236_0 [some (.ref a), some (.int x0)] [] h := cal_of ⟨hμ, show decide (kd h a = 12 ∧ 2 ≤ a ∧ 12 < 13) = true from decide_eq_true ⟨h1, h2, by decide⟩, rfl, by decide, Nat.le_of_ble_eq_true rfl⟩
theorem T_236_41 : tgt 236 41 = B_236_41 := rfl
theorem R_236 (μ : Nat) (cs : List IR) (ls : LV) (h : MH) : rn 236 μ (.return_ :: cs) ls [] h = some (none, h) := by
  rw [rn_fix]; rfl
theorem C_237 (a : Nat) (μ : Nat) (h : MH) (h1 : kd h a = 12) (h2 : 2 ≤ a) (hμ : 3 < μ) : cal 237 [.ref a] μ h = rn 237 (3) B_237_0 [some (.ref a)] [] h := cal_of ⟨hμ, show decide (kd h a = 12 ∧ 2 ≤ a ∧ 12 < 13) = true from decide_eq_true ⟨h1, h2, by decide⟩, rfl, by decide, Nat.le_of_ble_eq_true rfl⟩
theorem T_237_18 : tgt 237 18 = B_237_18 := rfl
theorem T_237_22 : tgt 237 22 = B_237_22 := rfl
theorem T_237_23 : tgt 237 23 = B_237_23 := rfl
theorem R_237 (μ : Nat) (cs : List IR) (ls : LV) (x : Int32) (h : MH) (hx : x = 0 ∨ x = 1) : rn 237 μ (.ireturn :: cs) ls [.int x] h = some (some (.int x), h) := rz_of (by decide +kernel) hx
theorem C_238 (a : Nat) (μ : Nat) (h : MH) (h1 : kd h a = 12) (h2 : 2 ≤ a) (hμ : 3 < μ) : cal 238 [.ref a] μ h = rn 238 (3) B_238_0 [some (.ref a)] [] h := cal_of ⟨hμ, show decide (kd h a = 12 ∧ 2 ≤ a ∧ 12 < 13) = true from decide_eq_true ⟨h1, h2, by decide⟩, rfl, by decide, Nat.le_of_ble_eq_true rfl⟩
theorem R_238 (μ : Nat) (cs : List IR) (ls : LV) (h : MH) : rn 238 μ (.return_ :: cs) ls [] h = some (none, h) := by
  rw [rn_fix]; rfl
theorem C_239 (a : Nat) (x0 : Int32) (x1 : Int32) (μ : Nat) (h : MH) (h1 : kd h a = 12) (h2 : 2 ≤ a) (hμ : 3 < μ) : cal 239 [.ref a, .int x0, .int x1] μ h = rn 239 (3) B_239_0 [some (.ref a), some (.int x0), some (.int x1)] [] h := cal_of ⟨hμ, show decide (kd h a = 12 ∧ 2 ≤ a ∧ 12 < 13) = true from decide_eq_true ⟨h1, h2, by decide⟩, rfl, by decide, Nat.le_of_ble_eq_true rfl⟩
theorem R_239 (μ : Nat) (cs : List IR) (ls : LV) (h : MH) : rn 239 μ (.return_ :: cs) ls [] h = some (none, h) := by
  rw [rn_fix]; rfl
theorem C_240 (a : Nat) (μ : Nat) (h : MH) (h1 : kd h a = 12) (h2 : 2 ≤ a) (hμ : 4 < μ) : cal 240 [.ref a] μ h = rn 240 (4) B_240_0 [some (.ref a)] [] h := cal_of ⟨hμ, show decide (kd h a = 12 ∧ 2 ≤ a ∧ 12 < 13) = true from decide_eq_true ⟨h1, h2, by decide⟩, rfl, by decide, Nat.le_of_ble_eq_true rfl⟩
theorem T_240_13 : tgt 240 13 = B_240_13 := rfl
theorem T_240_26 : tgt 240 26 = B_240_26 := rfl
theorem T_240_98 : tgt 240 98 = B_240_98 := rfl
theorem T_240_105 : tgt 240 105 = B_240_105 := rfl
theorem T_240_106 : tgt 240 106 = B_240_106 := rfl
theorem R_240 (μ : Nat) (cs : List IR) (ls : LV) (x : Int32) (h : MH) : rn 240 μ (.ireturn :: cs) ls [.int x] h = some (some (.int x), h) := by
  rw [rn_fix]; rfl
theorem C_241 (a : Nat) (μ : Nat) (h : MH) (h1 : kd h a = 12) (h2 : 2 ≤ a) (hμ : 3 < μ) : cal 241 [.ref a] μ h = rn 241 (3) B_241_0 [some (.ref a), none, none] [] h := cal_of ⟨hμ, show decide (kd h a = 12 ∧ 2 ≤ a ∧ 12 < 13) = true from decide_eq_true ⟨h1, h2, by decide⟩, rfl, by decide, Nat.le_of_ble_eq_true rfl⟩
theorem T_241_4 : tgt 241 4 = B_241_4 := rfl
theorem T_241_27 : tgt 241 27 = B_241_27 := rfl
theorem T_241_31 : tgt 241 31 = B_241_31 := rfl
theorem T_241_32 : tgt 241 32 = B_241_32 := rfl
theorem T_241_39 : tgt 241 39 = B_241_39 := rfl
theorem R_241 (μ : Nat) (cs : List IR) (ls : LV) (x : Int32) (h : MH) (hx : x = 0 ∨ x = 1) : rn 241 μ (.ireturn :: cs) ls [.int x] h = some (some (.int x), h) := rz_of (by decide +kernel) hx
theorem C_242 (a : Nat) (x0 : Int32) (μ : Nat) (h : MH) (h1 : kd h a = 12) (h2 : 2 ≤ a) (hμ : 4 < μ) : cal 242 [.ref a, .int x0] μ h = rn 242 (4) B_242_0 [some (.ref a), some (.int x0)] [] h := cal_of ⟨hμ, show decide (kd h a = 12 ∧ 2 ≤ a ∧ 12 < 13) = true from decide_eq_true ⟨h1, h2, by decide⟩, rfl, by decide, Nat.le_of_ble_eq_true rfl⟩
theorem T_242_84 : tgt 242 84 = B_242_84 := rfl
theorem T_242_101 : tgt 242 101 = B_242_101 := rfl
theorem R_242 (μ : Nat) (cs : List IR) (ls : LV) (h : MH) : rn 242 μ (.return_ :: cs) ls [] h = some (none, h) := by
  rw [rn_fix]; rfl
theorem C_243 (a : Nat) (μ : Nat) (h : MH) (h1 : kd h a = 12) (h2 : 2 ≤ a) (hμ : 4 < μ) : cal 243 [.ref a] μ h = rn 243 (4) B_243_0 [some (.ref a), none] [] h := cal_of ⟨hμ, show decide (kd h a = 12 ∧ 2 ≤ a ∧ 12 < 13) = true from decide_eq_true ⟨h1, h2, by decide⟩, rfl, by decide, Nat.le_of_ble_eq_true rfl⟩
theorem T_243_7 : tgt 243 7 = B_243_7 := rfl
theorem T_243_41 : tgt 243 41 = B_243_41 := rfl
theorem T_243_73 : tgt 243 73 = B_243_73 := rfl
theorem T_243_74 : tgt 243 74 = B_243_74 := rfl
theorem R_243 (μ : Nat) (cs : List IR) (ls : LV) (x : Int32) (h : MH) (hx : x = 0 ∨ x = 1) : rn 243 μ (.ireturn :: cs) ls [.int x] h = some (some (.int x), h) := rz_of (by decide +kernel) hx
theorem C_244 (a : Nat) (x0 : Int64) (x1 : Int32) (μ : Nat) (h : MH) (h1 : kd h a = 12) (h2 : 2 ≤ a) (hμ : 4 < μ) : cal 244 [.ref a, .long x0, .int x1] μ h = rn 244 (4) B_244_0 [some (.ref a), some (.long x0), none, some (.int x1)] [] h := cal_of ⟨hμ, show decide (kd h a = 12 ∧ 2 ≤ a ∧ 12 < 13) = true from decide_eq_true ⟨h1, h2, by decide⟩, rfl, by decide, Nat.le_of_ble_eq_true rfl⟩
theorem T_244_21 : tgt 244 21 = B_244_21 := rfl
theorem T_244_22 : tgt 244 22 = B_244_22 := rfl
theorem R_244 (μ : Nat) (cs : List IR) (ls : LV) (x : Int32) (h : MH) (hx : x = 0 ∨ x = 1) : rn 244 μ (.ireturn :: cs) ls [.int x] h = some (some (.int x), h) := rz_of (by decide +kernel) hx
theorem C_245 (a : Nat) (μ : Nat) (h : MH) (h1 : kd h a = 12) (h2 : 2 ≤ a) (hμ : 8 < μ) : cal 245 [.ref a] μ h = rn 245 (8) B_245_0 [some (.ref a)] [] h := cal_of ⟨hμ, show decide (kd h a = 12 ∧ 2 ≤ a ∧ 12 < 13) = true from decide_eq_true ⟨h1, h2, by decide⟩, rfl, by decide, Nat.le_of_ble_eq_true rfl⟩
theorem R_245 (μ : Nat) (cs : List IR) (ls : LV) (h : MH) : rn 245 μ (.return_ :: cs) ls [] h = some (none, h) := by
  rw [rn_fix]; rfl
theorem C_246 (a : Nat) (μ : Nat) (h : MH) (h1 : kd h a = 12) (h2 : 2 ≤ a) (hμ : 6 < μ) : cal 246 [.ref a] μ h = rn 246 (6) B_246_0 [some (.ref a), none, none] [] h := cal_of ⟨hμ, show decide (kd h a = 12 ∧ 2 ≤ a ∧ 12 < 13) = true from decide_eq_true ⟨h1, h2, by decide⟩, rfl, by decide, Nat.le_of_ble_eq_true rfl⟩
theorem T_246_2 : tgt 246 2 = B_246_2 := rfl
theorem T_246_19 : tgt 246 19 = B_246_19 := rfl
theorem T_246_49 : tgt 246 49 = B_246_49 := rfl
theorem T_246_50 : tgt 246 50 = B_246_50 := rfl
theorem T_246_58 : tgt 246 58 = B_246_58 := rfl
theorem T_246_64 : tgt 246 64 = B_246_64 := rfl
theorem R_246 (μ : Nat) (cs : List IR) (ls : LV) (h : MH) : rn 246 μ (.return_ :: cs) ls [] h = some (none, h) := by
  rw [rn_fix]; rfl
theorem C_247 (a : Nat) (x0 : Int32) (x1 : Int32) (μ : Nat) (h : MH) (h1 : kd h a = 12) (h2 : 2 ≤ a) (hμ : 5 < μ) : cal 247 [.ref a, .int x0, .int x1] μ h = rn 247 (5) B_247_0 [some (.ref a), some (.int x0), some (.int x1), none, none] [] h := cal_of ⟨hμ, show decide (kd h a = 12 ∧ 2 ≤ a ∧ 12 < 13) = true from decide_eq_true ⟨h1, h2, by decide⟩, rfl, by decide, Nat.le_of_ble_eq_true rfl⟩
theorem T_247_9 : tgt 247 9 = B_247_9 := rfl
theorem T_247_47 : tgt 247 47 = B_247_47 := rfl
theorem T_247_72 : tgt 247 72 = B_247_72 := rfl
theorem T_247_84 : tgt 247 84 = B_247_84 := rfl
theorem T_247_91 : tgt 247 91 = B_247_91 := rfl
theorem T_247_124 : tgt 247 124 = B_247_124 := rfl
theorem T_247_125 : tgt 247 125 = B_247_125 := rfl
theorem T_247_132 : tgt 247 132 = B_247_132 := rfl
theorem T_247_167 : tgt 247 167 = B_247_167 := rfl
theorem T_247_173 : tgt 247 173 = B_247_173 := rfl
theorem R_247 (μ : Nat) (cs : List IR) (ls : LV) (x : Int32) (h : MH) : rn 247 μ (.ireturn :: cs) ls [.int x] h = some (some (.int x), h) := by
  rw [rn_fix]; rfl
theorem C_248 (a : Nat) (x0 : Int32) (x1 : Int32) (μ : Nat) (h : MH) (h1 : kd h a = 12) (h2 : 2 ≤ a) (hμ : 3 < μ) : cal 248 [.ref a, .int x0, .int x1] μ h = rn 248 (3) B_248_0 [some (.ref a), some (.int x0), some (.int x1), none, none] [] h := cal_of ⟨hμ, show decide (kd h a = 12 ∧ 2 ≤ a ∧ 12 < 13) = true from decide_eq_true ⟨h1, h2, by decide⟩, rfl, by decide, Nat.le_of_ble_eq_true rfl⟩
theorem T_248_10 : tgt 248 10 = B_248_10 := rfl
theorem T_248_32 : tgt 248 32 = B_248_32 := rfl
theorem R_248 (μ : Nat) (cs : List IR) (ls : LV) (x : Int32) (h : MH) : rn 248 μ (.ireturn :: cs) ls [.int x] h = some (some (.int x), h) := by
  rw [rn_fix]; rfl
theorem C_249 (x0 : Int32) (μ : Nat) (h : MH)  (hμ : 3 < μ) : cal 249 [.int x0] μ h = rn 249 (3) B_249_0 [some (.int x0)] [] h := cal_of ⟨hμ, rfl, rfl, by decide, Nat.le_of_ble_eq_true rfl⟩
theorem T_249_8 : tgt 249 8 = B_249_8 := rfl
theorem T_249_9 : tgt 249 9 = B_249_9 := rfl
theorem R_249 (μ : Nat) (cs : List IR) (ls : LV) (x : Int32) (h : MH) : rn 249 μ (.ireturn :: cs) ls [.int x] h = some (some (.int x), h) := by
  rw [rn_fix]; rfl
theorem C_250 (x0 : Int32) (x1 : Int32) (x2 : Int32) (μ : Nat) (h : MH)  (hμ : 4 < μ) : cal 250 [.int x0, .int x1, .int x2] μ h = rn 250 (4) B_250_0 [some (.int x0), some (.int x1), some (.int x2)] [] h := cal_of ⟨hμ, rfl, rfl, by decide, Nat.le_of_ble_eq_true rfl⟩
theorem T_250_120 : tgt 250 120 = B_250_120 := rfl
theorem T_250_124 : tgt 250 124 = B_250_124 := rfl
theorem T_250_128 : tgt 250 128 = B_250_128 := rfl
theorem T_250_132 : tgt 250 132 = B_250_132 := rfl
theorem T_250_140 : tgt 250 140 = B_250_140 := rfl
theorem T_250_143 : tgt 250 143 = B_250_143 := rfl
theorem T_250_144 : tgt 250 144 = B_250_144 := rfl
theorem T_250_152 : tgt 250 152 = B_250_152 := rfl
theorem T_250_155 : tgt 250 155 = B_250_155 := rfl
theorem T_250_156 : tgt 250 156 = B_250_156 := rfl
theorem T_250_165 : tgt 250 165 = B_250_165 := rfl
theorem T_250_166 : tgt 250 166 = B_250_166 := rfl
theorem T_250_170 : tgt 250 170 = B_250_170 := rfl
theorem T_250_179 : tgt 250 179 = B_250_179 := rfl
theorem T_250_180 : tgt 250 180 = B_250_180 := rfl
theorem T_250_184 : tgt 250 184 = B_250_184 := rfl
theorem T_250_193 : tgt 250 193 = B_250_193 := rfl
theorem T_250_194 : tgt 250 194 = B_250_194 := rfl
theorem T_250_198 : tgt 250 198 = B_250_198 := rfl
theorem T_250_210 : tgt 250 210 = B_250_210 := rfl
theorem T_250_211 : tgt 250 211 = B_250_211 := rfl
theorem T_250_215 : tgt 250 215 = B_250_215 := rfl
theorem T_250_223 : tgt 250 223 = B_250_223 := rfl
theorem T_250_227 : tgt 250 227 = B_250_227 := rfl
theorem T_250_228 : tgt 250 228 = B_250_228 := rfl
theorem R_250 (μ : Nat) (cs : List IR) (ls : LV) (x : Int32) (h : MH) : rn 250 μ (.ireturn :: cs) ls [.int x] h = some (some (.int x), h) := by
  rw [rn_fix]; rfl
theorem C_251 (a : Nat) (μ : Nat) (h : MH) (h1 : kd h a = 12) (h2 : 2 ≤ a) (hμ : 6 < μ) : cal 251 [.ref a] μ h = rn 251 (6) B_251_0 [some (.ref a), none, none] [] h := cal_of ⟨hμ, show decide (kd h a = 12 ∧ 2 ≤ a ∧ 12 < 13) = true from decide_eq_true ⟨h1, h2, by decide⟩, rfl, by decide, Nat.le_of_ble_eq_true rfl⟩
theorem T_251_2 : tgt 251 2 = B_251_2 := rfl
theorem T_251_19 : tgt 251 19 = B_251_19 := rfl
theorem T_251_49 : tgt 251 49 = B_251_49 := rfl
theorem T_251_50 : tgt 251 50 = B_251_50 := rfl
theorem T_251_58 : tgt 251 58 = B_251_58 := rfl
theorem T_251_64 : tgt 251 64 = B_251_64 := rfl
theorem R_251 (μ : Nat) (cs : List IR) (ls : LV) (h : MH) : rn 251 μ (.return_ :: cs) ls [] h = some (none, h) := by
  rw [rn_fix]; rfl
theorem C_252 (a : Nat) (x0 : Int32) (x1 : Int32) (μ : Nat) (h : MH) (h1 : kd h a = 12) (h2 : 2 ≤ a) (hμ : 5 < μ) : cal 252 [.ref a, .int x0, .int x1] μ h = rn 252 (5) B_252_0 [some (.ref a), some (.int x0), some (.int x1), none] [] h := cal_of ⟨hμ, show decide (kd h a = 12 ∧ 2 ≤ a ∧ 12 < 13) = true from decide_eq_true ⟨h1, h2, by decide⟩, rfl, by decide, Nat.le_of_ble_eq_true rfl⟩
theorem T_252_20 : tgt 252 20 = B_252_20 := rfl
theorem T_252_22 : tgt 252 22 = B_252_22 := rfl
theorem T_252_38 : tgt 252 38 = B_252_38 := rfl
theorem T_252_64 : tgt 252 64 = B_252_64 := rfl
theorem T_252_68 : tgt 252 68 = B_252_68 := rfl
theorem T_252_86 : tgt 252 86 = B_252_86 := rfl
theorem T_252_87 : tgt 252 87 = B_252_87 := rfl
theorem R_252 (μ : Nat) (cs : List IR) (ls : LV) (x : Int32) (h : MH) (hx : x = 0 ∨ x = 1) : rn 252 μ (.ireturn :: cs) ls [.int x] h = some (some (.int x), h) := rz_of (by decide +kernel) hx
theorem C_253 (a : Nat) (x0 : Int32) (x1 : Int32) (μ : Nat) (h : MH) (h1 : kd h a = 12) (h2 : 2 ≤ a) (hμ : 4 < μ) : cal 253 [.ref a, .int x0, .int x1] μ h = rn 253 (4) B_253_0 [some (.ref a), some (.int x0), some (.int x1), none, none, none, none] [] h := cal_of ⟨hμ, show decide (kd h a = 12 ∧ 2 ≤ a ∧ 12 < 13) = true from decide_eq_true ⟨h1, h2, by decide⟩, rfl, by decide, Nat.le_of_ble_eq_true rfl⟩
theorem T_253_11 : tgt 253 11 = B_253_11 := rfl
theorem T_253_45 : tgt 253 45 = B_253_45 := rfl
theorem T_253_46 : tgt 253 46 = B_253_46 := rfl
theorem T_253_77 : tgt 253 77 = B_253_77 := rfl
theorem T_253_78 : tgt 253 78 = B_253_78 := rfl
theorem T_253_110 : tgt 253 110 = B_253_110 := rfl
theorem T_253_111 : tgt 253 111 = B_253_111 := rfl
theorem T_253_123 : tgt 253 123 = B_253_123 := rfl
theorem T_253_141 : tgt 253 141 = B_253_141 := rfl
theorem T_253_142 : tgt 253 142 = B_253_142 := rfl
theorem R_253 (μ : Nat) (cs : List IR) (ls : LV) (x : Int32) (h : MH) (hx : x = 0 ∨ x = 1) : rn 253 μ (.ireturn :: cs) ls [.int x] h = some (some (.int x), h) := rz_of (by decide +kernel) hx
theorem C_254 (a : Nat) (x0 : Int32) (x1 : Int32) (μ : Nat) (h : MH) (h1 : kd h a = 12) (h2 : 2 ≤ a) (hμ : 3 < μ) : cal 254 [.ref a, .int x0, .int x1] μ h = rn 254 (3) B_254_0 [some (.ref a), some (.int x0), some (.int x1)] [] h := cal_of ⟨hμ, show decide (kd h a = 12 ∧ 2 ≤ a ∧ 12 < 13) = true from decide_eq_true ⟨h1, h2, by decide⟩, rfl, by decide, Nat.le_of_ble_eq_true rfl⟩
theorem T_254_18 : tgt 254 18 = B_254_18 := rfl
theorem T_254_19 : tgt 254 19 = B_254_19 := rfl
theorem R_254 (μ : Nat) (cs : List IR) (ls : LV) (x : Int32) (h : MH) (hx : x = 0 ∨ x = 1) : rn 254 μ (.ireturn :: cs) ls [.int x] h = some (some (.int x), h) := rz_of (by decide +kernel) hx
theorem C_255 (a : Nat) (x0 : Int32) (μ : Nat) (h : MH) (h1 : kd h a = 12) (h2 : 2 ≤ a) (hμ : 3 < μ) : cal 255 [.ref a, .int x0] μ h = rn 255 (3) B_255_0 [some (.ref a), some (.int x0)] [] h := cal_of ⟨hμ, show decide (kd h a = 12 ∧ 2 ≤ a ∧ 12 < 13) = true from decide_eq_true ⟨h1, h2, by decide⟩, rfl, by decide, Nat.le_of_ble_eq_true rfl⟩
theorem T_255_11 : tgt 255 11 = B_255_11 := rfl
theorem T_255_23 : tgt 255 23 = B_255_23 := rfl
theorem T_255_24 : tgt 255 24 = B_255_24 := rfl
theorem R_255 (μ : Nat) (cs : List IR) (ls : LV) (x : Int32) (h : MH) : rn 255 μ (.ireturn :: cs) ls [.int x] h = some (some (.int x), h) := by
  rw [rn_fix]; rfl
theorem C_256 (a : Nat) (x0 : Int32) (x1 : Int32) (μ : Nat) (h : MH) (h1 : kd h a = 12) (h2 : 2 ≤ a) (hμ : 5 < μ) : cal 256 [.ref a, .int x0, .int x1] μ h = rn 256 (5) B_256_0 [some (.ref a), some (.int x0), some (.int x1)] [] h := cal_of ⟨hμ, show decide (kd h a = 12 ∧ 2 ≤ a ∧ 12 < 13) = true from decide_eq_true ⟨h1, h2, by decide⟩, rfl, by decide, Nat.le_of_ble_eq_true rfl⟩
theorem T_256_31 : tgt 256 31 = B_256_31 := rfl
theorem T_256_32 : tgt 256 32 = B_256_32 := rfl
theorem R_256 (μ : Nat) (cs : List IR) (ls : LV) (x : Int32) (h : MH) : rn 256 μ (.ireturn :: cs) ls [.int x] h = some (some (.int x), h) := by
  rw [rn_fix]; rfl
theorem C_257 (a : Nat) (x0 : Int32) (μ : Nat) (h : MH) (h1 : kd h a = 12) (h2 : 2 ≤ a) (hμ : 4 < μ) : cal 257 [.ref a, .int x0] μ h = rn 257 (4) B_257_0 [some (.ref a), some (.int x0)] [] h := cal_of ⟨hμ, show decide (kd h a = 12 ∧ 2 ≤ a ∧ 12 < 13) = true from decide_eq_true ⟨h1, h2, by decide⟩, rfl, by decide, Nat.le_of_ble_eq_true rfl⟩
theorem R_257 (μ : Nat) (cs : List IR) (ls : LV) (x : Int32) (h : MH) (hx : x = 0 ∨ x = 1) : rn 257 μ (.ireturn :: cs) ls [.int x] h = some (some (.int x), h) := rz_of (by decide +kernel) hx
theorem C_258 (x0 : Int32) (x1 : Int32) (x2 : Int32) (μ : Nat) (h : MH)  (hμ : 3 < μ) : cal 258 [.int x0, .int x1, .int x2] μ h = rn 258 (3) B_258_0 [some (.int x0), some (.int x1), some (.int x2)] [] h := cal_of ⟨hμ, rfl, rfl, by decide, Nat.le_of_ble_eq_true rfl⟩
theorem T_258_14 : tgt 258 14 = B_258_14 := rfl
theorem T_258_15 : tgt 258 15 = B_258_15 := rfl
theorem R_258 (μ : Nat) (cs : List IR) (ls : LV) (x : Int32) (h : MH) (hx : x = 0 ∨ x = 1) : rn 258 μ (.ireturn :: cs) ls [.int x] h = some (some (.int x), h) := rz_of (by decide +kernel) hx
theorem C_259 (a : Nat) (x0 : Int32) (x1 : Int32) (μ : Nat) (h : MH) (h1 : kd h a = 12) (h2 : 2 ≤ a) (hμ : 5 < μ) : cal 259 [.ref a, .int x0, .int x1] μ h = rn 259 (5) B_259_0 [some (.ref a), some (.int x0), some (.int x1)] [] h := cal_of ⟨hμ, show decide (kd h a = 12 ∧ 2 ≤ a ∧ 12 < 13) = true from decide_eq_true ⟨h1, h2, by decide⟩, rfl, by decide, Nat.le_of_ble_eq_true rfl⟩
theorem T_259_29 : tgt 259 29 = B_259_29 := rfl
theorem T_259_30 : tgt 259 30 = B_259_30 := rfl
theorem R_259 (μ : Nat) (cs : List IR) (ls : LV) (x : Int32) (h : MH) : rn 259 μ (.ireturn :: cs) ls [.int x] h = some (some (.int x), h) := by
  rw [rn_fix]; rfl
theorem C_260 (a : Nat) (x0 : Int32) (μ : Nat) (h : MH) (h1 : kd h a = 12) (h2 : 2 ≤ a) (hμ : 4 < μ) : cal 260 [.ref a, .int x0] μ h = rn 260 (4) B_260_0 [some (.ref a), some (.int x0)] [] h := cal_of ⟨hμ, show decide (kd h a = 12 ∧ 2 ≤ a ∧ 12 < 13) = true from decide_eq_true ⟨h1, h2, by decide⟩, rfl, by decide, Nat.le_of_ble_eq_true rfl⟩
theorem R_260 (μ : Nat) (cs : List IR) (ls : LV) (x : Int32) (h : MH) (hx : x = 0 ∨ x = 1) : rn 260 μ (.ireturn :: cs) ls [.int x] h = some (some (.int x), h) := rz_of (by decide +kernel) hx
theorem C_261 (a : Nat) (x0 : Int32) (x1 : Int32) (μ : Nat) (h : MH) (h1 : kd h a = 12) (h2 : 2 ≤ a) (hμ : 6 < μ) : cal 261 [.ref a, .int x0, .int x1] μ h = rn 261 (6) B_261_0 [some (.ref a), some (.int x0), some (.int x1)] [] h := cal_of ⟨hμ, show decide (kd h a = 12 ∧ 2 ≤ a ∧ 12 < 13) = true from decide_eq_true ⟨h1, h2, by decide⟩, rfl, by decide, Nat.le_of_ble_eq_true rfl⟩
theorem T_261_28 : tgt 261 28 = B_261_28 := rfl
theorem T_261_29 : tgt 261 29 = B_261_29 := rfl
theorem R_261 (μ : Nat) (cs : List IR) (ls : LV) (x : Int32) (h : MH) : rn 261 μ (.ireturn :: cs) ls [.int x] h = some (some (.int x), h) := by
  rw [rn_fix]; rfl
theorem C_262 (a : Nat) (x0 : Int32) (μ : Nat) (h : MH) (h1 : kd h a = 12) (h2 : 2 ≤ a) (hμ : 5 < μ) : cal 262 [.ref a, .int x0] μ h = rn 262 (5) B_262_0 [some (.ref a), some (.int x0), none, none] [] h := cal_of ⟨hμ, show decide (kd h a = 12 ∧ 2 ≤ a ∧ 12 < 13) = true from decide_eq_true ⟨h1, h2, by decide⟩, rfl, by decide, Nat.le_of_ble_eq_true rfl⟩
theorem T_262_10 : tgt 262 10 = B_262_10 := rfl
theorem T_262_14 : tgt 262 14 = B_262_14 := rfl
theorem T_262_41 : tgt 262 41 = B_262_41 := rfl
theorem R_262 (μ : Nat) (cs : List IR) (ls : LV) (x : Int32) (h : MH) : rn 262 μ (.ireturn :: cs) ls [.int x] h = some (some (.int x), h) := by
  rw [rn_fix]; rfl
theorem C_263 (a : Nat) (x0 : Int32) (x1 : Int32) (μ : Nat) (h : MH) (h1 : kd h a = 12) (h2 : 2 ≤ a) (hμ : 5 < μ) : cal 263 [.ref a, .int x0, .int x1] μ h = rn 263 (5) B_263_0 [some (.ref a), some (.int x0), some (.int x1)] [] h := cal_of ⟨hμ, show decide (kd h a = 12 ∧ 2 ≤ a ∧ 12 < 13) = true from decide_eq_true ⟨h1, h2, by decide⟩, rfl, by decide, Nat.le_of_ble_eq_true rfl⟩
theorem T_263_11 : tgt 263 11 = B_263_11 := rfl
theorem T_263_52 : tgt 263 52 = B_263_52 := rfl
theorem T_263_59 : tgt 263 59 = B_263_59 := rfl
theorem T_263_66 : tgt 263 66 = B_263_66 := rfl
theorem T_263_75 : tgt 263 75 = B_263_75 := rfl
theorem T_263_84 : tgt 263 84 = B_263_84 := rfl
theorem T_263_93 : tgt 263 93 = B_263_93 := rfl
theorem T_263_103 : tgt 263 103 = B_263_103 := rfl
theorem R_263 (μ : Nat) (cs : List IR) (ls : LV) (x : Int32) (h : MH) : rn 263 μ (.ireturn :: cs) ls [.int x] h = some (some (.int x), h) := by
  rw [rn_fix]; rfl
theorem C_264 (a : Nat) (x0 : Int32) (μ : Nat) (h : MH) (h1 : kd h a = 12) (h2 : 2 ≤ a) (hμ : 3 < μ) : cal 264 [.ref a, .int x0] μ h = rn 264 (3) B_264_0 [some (.ref a), some (.int x0)] [] h := cal_of ⟨hμ, show decide (kd h a = 12 ∧ 2 ≤ a ∧ 12 < 13) = true from decide_eq_true ⟨h1, h2, by decide⟩, rfl, by decide, Nat.le_of_ble_eq_true rfl⟩
theorem T_264_18 : tgt 264 18 = B_264_18 := rfl
theorem T_264_19 : tgt 264 19 = B_264_19 := rfl
theorem R_264 (μ : Nat) (cs : List IR) (ls : LV) (x : Int32) (h : MH) (hx : x = 0 ∨ x = 1) : rn 264 μ (.ireturn :: cs) ls [.int x] h = some (some (.int x), h) := rz_of (by decide +kernel) hx
theorem C_265 (a : Nat) (x0 : Int32) (μ : Nat) (h : MH) (h1 : kd h a = 12) (h2 : 2 ≤ a) (hμ : 4 < μ) : cal 265 [.ref a, .int x0] μ h = rn 265 (4) B_265_0 [some (.ref a), some (.int x0)] [] h := cal_of ⟨hμ, show decide (kd h a = 12 ∧ 2 ≤ a ∧ 12 < 13) = true from decide_eq_true ⟨h1, h2, by decide⟩, rfl, by decide, Nat.le_of_ble_eq_true rfl⟩
theorem T_265_29 : tgt 265 29 = B_265_29 := rfl
theorem T_265_30 : tgt 265 30 = B_265_30 := rfl
theorem R_265 (μ : Nat) (cs : List IR) (ls : LV) (x : Int32) (h : MH) (hx : x = 0 ∨ x = 1) : rn 265 μ (.ireturn :: cs) ls [.int x] h = some (some (.int x), h) := rz_of (by decide +kernel) hx
theorem C_266 (a : Nat) (x0 : Int32) (x1 : Int32) (μ : Nat) (h : MH) (h1 : kd h a = 12) (h2 : 2 ≤ a) (hμ : 6 < μ) : cal 266 [.ref a, .int x0, .int x1] μ h = rn 266 (6) B_266_0 [some (.ref a), some (.int x0), some (.int x1)] [] h := cal_of ⟨hμ, show decide (kd h a = 12 ∧ 2 ≤ a ∧ 12 < 13) = true from decide_eq_true ⟨h1, h2, by decide⟩, rfl, by decide, Nat.le_of_ble_eq_true rfl⟩
theorem T_266_29 : tgt 266 29 = B_266_29 := rfl
theorem T_266_31 : tgt 266 31 = B_266_31 := rfl
theorem R_266 (μ : Nat) (cs : List IR) (ls : LV) (x : Int32) (h : MH) : rn 266 μ (.ireturn :: cs) ls [.int x] h = some (some (.int x), h) := by
  rw [rn_fix]; rfl
theorem C_267 (a : Nat) (x0 : Int32) (μ : Nat) (h : MH) (h1 : kd h a = 12) (h2 : 2 ≤ a) (hμ : 4 < μ) : cal 267 [.ref a, .int x0] μ h = rn 267 (4) B_267_0 [some (.ref a), some (.int x0)] [] h := cal_of ⟨hμ, show decide (kd h a = 12 ∧ 2 ≤ a ∧ 12 < 13) = true from decide_eq_true ⟨h1, h2, by decide⟩, rfl, by decide, Nat.le_of_ble_eq_true rfl⟩
theorem R_267 (μ : Nat) (cs : List IR) (ls : LV) (x : Int32) (h : MH) (hx : x = 0 ∨ x = 1) : rn 267 μ (.ireturn :: cs) ls [.int x] h = some (some (.int x), h) := rz_of (by decide +kernel) hx
theorem C_268 (a : Nat) (μ : Nat) (h : MH) (h1 : kd h a = 12) (h2 : 2 ≤ a) (hμ : 5 < μ) : cal 268 [.ref a] μ h = rn 268 (5) B_268_0 [some (.ref a), none, none] [] h := cal_of ⟨hμ, show decide (kd h a = 12 ∧ 2 ≤ a ∧ 12 < 13) = true from decide_eq_true ⟨h1, h2, by decide⟩, rfl, by decide, Nat.le_of_ble_eq_true rfl⟩
theorem T_268_4 : tgt 268 4 = B_268_4 := rfl
theorem T_268_27 : tgt 268 27 = B_268_27 := rfl
theorem T_268_28 : tgt 268 28 = B_268_28 := rfl
theorem T_268_36 : tgt 268 36 = B_268_36 := rfl
theorem R_268 (μ : Nat) (cs : List IR) (ls : LV) (x : Int32) (h : MH) : rn 268 μ (.ireturn :: cs) ls [.int x] h = some (some (.int x), h) := by
  rw [rn_fix]; rfl
theorem C_269 (a : Nat) (x0 : Int32) (x1 : Int32) (x2 : Int32) (μ : Nat) (h : MH) (h1 : kd h a = 12) (h2 : 2 ≤ a) (hμ : 3 < μ) : cal 269 [.ref a, .int x0, .int x1, .int x2] μ h = rn 269 (3) B_269_0 [some (.ref a), some (.int x0), some (.int x1), some (.int x2), none, none, none] [] h := cal_of ⟨hμ, show decide (kd h a = 12 ∧ 2 ≤ a ∧ 12 < 13) = true from decide_eq_true ⟨h1, h2, by decide⟩, rfl, by decide, Nat.le_of_ble_eq_true rfl⟩
theorem T_269_23 : tgt 269 23 = B_269_23 := rfl
theorem T_269_58 : tgt 269 58 = B_269_58 := rfl
theorem T_269_76 : tgt 269 76 = B_269_76 := rfl
theorem T_269_86 : tgt 269 86 = B_269_86 := rfl
theorem T_269_88 : tgt 269 88 = B_269_88 := rfl
theorem T_269_100 : tgt 269 100 = B_269_100 := rfl
theorem T_269_106 : tgt 269 106 = B_269_106 := rfl
theorem R_269 (μ : Nat) (cs : List IR) (ls : LV) (x : Int32) (h : MH) : rn 269 μ (.ireturn :: cs) ls [.int x] h = some (some (.int x), h) := by
  rw [rn_fix]; rfl
theorem C_270 (a : Nat) (x0 : Int32) (x1 : Int32) (μ : Nat) (h : MH) (h1 : kd h a = 12) (h2 : 2 ≤ a) (hμ : 6 < μ) : cal 270 [.ref a, .int x0, .int x1] μ h = rn 270 (6) B_270_0 [some (.ref a), some (.int x0), some (.int x1), none, none, none] [] h := cal_of ⟨hμ, show decide (kd h a = 12 ∧ 2 ≤ a ∧ 12 < 13) = true from decide_eq_true ⟨h1, h2, by decide⟩, rfl, by decide, Nat.le_of_ble_eq_true rfl⟩
theorem T_270_17 : tgt 270 17 = B_270_17 := rfl
theorem T_270_19 : tgt 270 19 = B_270_19 := rfl
theorem T_270_30 : tgt 270 30 = B_270_30 := rfl
theorem T_270_60 : tgt 270 60 = B_270_60 := rfl
theorem T_270_61 : tgt 270 61 = B_270_61 := rfl
theorem T_270_73 : tgt 270 73 = B_270_73 := rfl
theorem R_270 (μ : Nat) (cs : List IR) (ls : LV) (x : Int32) (h : MH) : rn 270 μ (.ireturn :: cs) ls [.int x] h = some (some (.int x), h) := by
  rw [rn_fix]; rfl
theorem C_271 (x0 : Int32) (μ : Nat) (h : MH)  (hμ : 3 < μ) : cal 271 [.int x0] μ h = rn 271 (3) B_271_0 [some (.int x0)] [] h := cal_of ⟨hμ, rfl, rfl, by decide, Nat.le_of_ble_eq_true rfl⟩
theorem T_271_8 : tgt 271 8 = B_271_8 := rfl
theorem T_271_17 : tgt 271 17 = B_271_17 := rfl
theorem T_271_18 : tgt 271 18 = B_271_18 := rfl
theorem R_271 (μ : Nat) (cs : List IR) (ls : LV) (x : Int32) (h : MH) : rn 271 μ (.ireturn :: cs) ls [.int x] h = some (some (.int x), h) := by
  rw [rn_fix]; rfl
theorem C_272 (a : Nat) (x0 : Int32) (x1 : Int32) (μ : Nat) (h : MH) (h1 : kd h a = 12) (h2 : 2 ≤ a) (hμ : 6 < μ) : cal 272 [.ref a, .int x0, .int x1] μ h = rn 272 (6) B_272_0 [some (.ref a), some (.int x0), some (.int x1), none, none] [] h := cal_of ⟨hμ, show decide (kd h a = 12 ∧ 2 ≤ a ∧ 12 < 13) = true from decide_eq_true ⟨h1, h2, by decide⟩, rfl, by decide, Nat.le_of_ble_eq_true rfl⟩
theorem T_272_17 : tgt 272 17 = B_272_17 := rfl
theorem T_272_19 : tgt 272 19 = B_272_19 := rfl
theorem T_272_27 : tgt 272 27 = B_272_27 := rfl
theorem T_272_54 : tgt 272 54 = B_272_54 := rfl
theorem T_272_60 : tgt 272 60 = B_272_60 := rfl
theorem R_272 (μ : Nat) (cs : List IR) (ls : LV) (x : Int32) (h : MH) : rn 272 μ (.ireturn :: cs) ls [.int x] h = some (some (.int x), h) := by
  rw [rn_fix]; rfl
theorem C_273 (a : Nat) (x0 : Int32) (x1 : Int32) (μ : Nat) (h : MH) (h1 : kd h a = 12) (h2 : 2 ≤ a) (hμ : 5 < μ) : cal 273 [.ref a, .int x0, .int x1] μ h = rn 273 (5) B_273_0 [some (.ref a), some (.int x0), some (.int x1)] [] h := cal_of ⟨hμ, show decide (kd h a = 12 ∧ 2 ≤ a ∧ 12 < 13) = true from decide_eq_true ⟨h1, h2, by decide⟩, rfl, by decide, Nat.le_of_ble_eq_true rfl⟩
theorem T_273_17 : tgt 273 17 = B_273_17 := rfl
theorem T_273_21 : tgt 273 21 = B_273_21 := rfl
theorem T_273_39 : tgt 273 39 = B_273_39 := rfl
theorem T_273_50 : tgt 273 50 = B_273_50 := rfl
theorem T_273_53 : tgt 273 53 = B_273_53 := rfl
theorem R_273 (μ : Nat) (cs : List IR) (ls : LV) (x : Int32) (h : MH) : rn 273 μ (.ireturn :: cs) ls [.int x] h = some (some (.int x), h) := by
  rw [rn_fix]; rfl
theorem C_274 (a : Nat) (x0 : Int32) (x1 : Int32) (μ : Nat) (h : MH) (h1 : kd h a = 12) (h2 : 2 ≤ a) (hμ : 3 < μ) : cal 274 [.ref a, .int x0, .int x1] μ h = rn 274 (3) B_274_0 [some (.ref a), some (.int x0), some (.int x1)] [] h := cal_of ⟨hμ, show decide (kd h a = 12 ∧ 2 ≤ a ∧ 12 < 13) = true from decide_eq_true ⟨h1, h2, by decide⟩, rfl, by decide, Nat.le_of_ble_eq_true rfl⟩
theorem T_274_46 : tgt 274 46 = B_274_46 := rfl
theorem T_274_47 : tgt 274 47 = B_274_47 := rfl
theorem R_274 (μ : Nat) (cs : List IR) (ls : LV) (x : Int32) (h : MH) (hx : x = 0 ∨ x = 1) : rn 274 μ (.ireturn :: cs) ls [.int x] h = some (some (.int x), h) := rz_of (by decide +kernel) hx
theorem C_275 (a : Nat) (x0 : Int32) (x1 : Int32) (μ : Nat) (h : MH) (h1 : kd h a = 12) (h2 : 2 ≤ a) (hμ : 3 < μ) : cal 275 [.ref a, .int x0, .int x1] μ h = rn 275 (3) B_275_0 [some (.ref a), some (.int x0), some (.int x1), none, none] [] h := cal_of ⟨hμ, show decide (kd h a = 12 ∧ 2 ≤ a ∧ 12 < 13) = true from decide_eq_true ⟨h1, h2, by decide⟩, rfl, by decide, Nat.le_of_ble_eq_true rfl⟩
theorem T_275_13 : tgt 275 13 = B_275_13 := rfl
theorem T_275_14 : tgt 275 14 = B_275_14 := rfl
theorem T_275_18 : tgt 275 18 = B_275_18 := rfl
theorem T_275_54 : tgt 275 54 = B_275_54 := rfl
theorem T_275_58 : tgt 275 58 = B_275_58 := rfl
theorem T_275_59 : tgt 275 59 = B_275_59 := rfl
theorem T_275_66 : tgt 275 66 = B_275_66 := rfl
theorem R_275 (μ : Nat) (cs : List IR) (ls : LV) (x : Int32) (h : MH) (hx : x = 0 ∨ x = 1) : rn 275 μ (.ireturn :: cs) ls [.int x] h = some (some (.int x), h) := rz_of (by decide +kernel) hx
theorem C_276 (a : Nat) (x0 : Int32) (μ : Nat) (h : MH) (h1 : kd h a = 12) (h2 : 2 ≤ a) (hμ : 5 < μ) : cal 276 [.ref a, .int x0] μ h = rn 276 (5) B_276_0 [some (.ref a), some (.int x0)] [] h := cal_of ⟨hμ, show decide (kd h a = 12 ∧ 2 ≤ a ∧ 12 < 13) = true from decide_eq_true ⟨h1, h2, by decide⟩, rfl, by decide, Nat.le_of_ble_eq_true rfl⟩
theorem T_276_22 : tgt 276 22 = B_276_22 := rfl
theorem T_276_24 : tgt 276 24 = B_276_24 := rfl
theorem R_276 (μ : Nat) (cs : List IR) (ls : LV) (x : Int32) (h : MH) : rn 276 μ (.ireturn :: cs) ls [.int x] h = some (some (.int x), h) := by
  rw [rn_fix]; rfl
theorem C_277 (a : Nat) (μ : Nat) (h : MH) (h1 : kd h a = 12) (h2 : 2 ≤ a) (hμ : 3 < μ) : cal 277 [.ref a] μ h = rn 277 (3) B_277_0 [some (.ref a), none] [] h := cal_of ⟨hμ, show decide (kd h a = 12 ∧ 2 ≤ a ∧ 12 < 13) = true from decide_eq_true ⟨h1, h2, by decide⟩, rfl, by decide, Nat.le_of_ble_eq_true rfl⟩
theorem T_277_11 : tgt 277 11 = B_277_11 := rfl
theorem T_277_39 : tgt 277 39 = B_277_39 := rfl
theorem T_277_49 : tgt 277 49 = B_277_49 := rfl
theorem T_277_51 : tgt 277 51 = B_277_51 := rfl
theorem T_277_83 : tgt 277 83 = B_277_83 := rfl
theorem R_277 (μ : Nat) (cs : List IR) (ls : LV) (h : MH) : rn 277 μ (.return_ :: cs) ls [] h = some (none, h) := by
  rw [rn_fix]; rfl
theorem C_278 (a : Nat) (x0 : Int32) (μ : Nat) (h : MH) (h1 : kd h a = 12) (h2 : 2 ≤ a) (hμ : 5 < μ) : cal 278 [.ref a, .int x0] μ h = rn 278 (5) B_278_0 [some (.ref a), some (.int x0)] [] h := cal_of ⟨hμ, show decide (kd h a = 12 ∧ 2 ≤ a ∧ 12 < 13) = true from decide_eq_true ⟨h1, h2, by decide⟩, rfl, by decide, Nat.le_of_ble_eq_true rfl⟩
theorem T_278_22 : tgt 278 22 = B_278_22 := rfl
theorem T_278_24 : tgt 278 24 = B_278_24 := rfl
theorem T_278_52 : tgt 278 52 = B_278_52 := rfl
theorem T_278_63 : tgt 278 63 = B_278_63 := rfl
theorem R_278 (μ : Nat) (cs : List IR) (ls : LV) (x : Int32) (h : MH) (hx : x = 0 ∨ x = 1) : rn 278 μ (.ireturn :: cs) ls [.int x] h = some (some (.int x), h) := rz_of (by decide +kernel) hx
theorem C_279 (a : Nat) (x0 : Int32) (μ : Nat) (h : MH) (h1 : kd h a = 12) (h2 : 2 ≤ a) (hμ : 3 < μ) : cal 279 [.ref a, .int x0] μ h = rn 279 (3) B_279_0 [some (.ref a), some (.int x0)] [] h := cal_of ⟨hμ, show decide (kd h a = 12 ∧ 2 ≤ a ∧ 12 < 13) = true from decide_eq_true ⟨h1, h2, by decide⟩, rfl, by decide, Nat.le_of_ble_eq_true rfl⟩
theorem R_279 (μ : Nat) (cs : List IR) (ls : LV) (h : MH) : rn 279 μ (.return_ :: cs) ls [] h = some (none, h) := by
  rw [rn_fix]; rfl
theorem C_280 (a : Nat) (μ : Nat) (h : MH) (h1 : kd h a = 12) (h2 : 2 ≤ a) (hμ : 4 < μ) : cal 280 [.ref a] μ h = rn 280 (4) B_280_0 [some (.ref a), none] [] h := cal_of ⟨hμ, show decide (kd h a = 12 ∧ 2 ≤ a ∧ 12 < 13) = true from decide_eq_true ⟨h1, h2, by decide⟩, rfl, by decide, Nat.le_of_ble_eq_true rfl⟩
theorem T_280_14 : tgt 280 14 = B_280_14 := rfl
theorem T_280_30 : tgt 280 30 = B_280_30 := rfl
theorem T_280_59 : tgt 280 59 = B_280_59 := rfl
theorem T_280_80 : tgt 280 80 = B_280_80 := rfl
theorem T_280_106 : tgt 280 106 = B_280_106 := rfl
theorem T_280_112 : tgt 280 112 = B_280_112 := rfl
theorem R_280 (μ : Nat) (cs : List IR) (ls : LV) (x : Int32) (h : MH) : rn 280 μ (.ireturn :: cs) ls [.int x] h = some (some (.int x), h) := by
  rw [rn_fix]; rfl
theorem C_281 (a : Nat) (μ : Nat) (h : MH) (h1 : kd h a = 12) (h2 : 2 ≤ a) (hμ : 4 < μ) : cal 281 [.ref a] μ h = rn 281 (4) B_281_0 [some (.ref a), none, none] [] h := cal_of ⟨hμ, show decide (kd h a = 12 ∧ 2 ≤ a ∧ 12 < 13) = true from decide_eq_true ⟨h1, h2, by decide⟩, rfl, by decide, Nat.le_of_ble_eq_true rfl⟩
theorem T_281_38 : tgt 281 38 = B_281_38 := rfl
theorem T_281_57 : tgt 281 57 = B_281_57 := rfl
theorem T_281_69 : tgt 281 69 = B_281_69 := rfl
theorem T_281_82 : tgt 281 82 = B_281_82 := rfl
theorem T_281_83 : tgt 281 83 = B_281_83 := rfl
theorem T_281_91 : tgt 281 91 = B_281_91 := rfl
theorem R_281 (μ : Nat) (cs : List IR) (ls : LV) (x : Int32) (h : MH) : rn 281 μ (.ireturn :: cs) ls [.int x] h = some (some (.int x), h) := by
  rw [rn_fix]; rfl
theorem C_282 (x0 : Int32) (μ : Nat) (h : MH)  (hμ : 3 < μ) : cal 282 [.int x0] μ h = rn 282 (3) B_282_0 [some (.int x0), none, none] [] h := cal_of ⟨hμ, rfl, rfl, by decide, Nat.le_of_ble_eq_true rfl⟩
theorem T_282_4 : tgt 282 4 = B_282_4 := rfl
theorem T_282_24 : tgt 282 24 = B_282_24 := rfl
theorem R_282 (μ : Nat) (cs : List IR) (ls : LV) (x : Int32) (h : MH) : rn 282 μ (.ireturn :: cs) ls [.int x] h = some (some (.int x), h) := by
  rw [rn_fix]; rfl
theorem C_283 (a : Nat) (μ : Nat) (h : MH) (h1 : kd h a = 12) (h2 : 2 ≤ a) (hμ : 4 < μ) : cal 283 [.ref a] μ h = rn 283 (4) B_283_0 [some (.ref a)] [] h := cal_of ⟨hμ, show decide (kd h a = 12 ∧ 2 ≤ a ∧ 12 < 13) = true from decide_eq_true ⟨h1, h2, by decide⟩, rfl, by decide, Nat.le_of_ble_eq_true rfl⟩
theorem T_283_9 : tgt 283 9 = B_283_9 := rfl
theorem R_283 (μ : Nat) (cs : List IR) (ls : LV) (x : Int32) (h : MH) (hx : x = 0 ∨ x = 1) : rn 283 μ (.ireturn :: cs) ls [.int x] h = some (some (.int x), h) := rz_of (by decide +kernel) hx
theorem C_284 (a : Nat) (x0 : Int32) (μ : Nat) (h : MH) (h1 : kd h a = 12) (h2 : 2 ≤ a) (hμ : 3 < μ) : cal 284 [.ref a, .int x0] μ h = rn 284 (3) B_284_0 [some (.ref a), some (.int x0), none, none] [] h := cal_of ⟨hμ, show decide (kd h a = 12 ∧ 2 ≤ a ∧ 12 < 13) = true from decide_eq_true ⟨h1, h2, by decide⟩, rfl, by decide, Nat.le_of_ble_eq_true rfl⟩
theorem T_284_2 : tgt 284 2 = B_284_2 := rfl
theorem T_284_44 : tgt 284 44 = B_284_44 := rfl
theorem R_284 (μ : Nat) (cs : List IR) (ls : LV) (h : MH) : rn 284 μ (.return_ :: cs) ls [] h = some (none, h) := by
  rw [rn_fix]; rfl
theorem C_285 (a : Nat) (μ : Nat) (h : MH) (h1 : kd h a = 12) (h2 : 2 ≤ a) (hμ : 4 < μ) : cal 285 [.ref a] μ h = rn 285 (4) B_285_0 [some (.ref a)] [] h := cal_of ⟨hμ, show decide (kd h a = 12 ∧ 2 ≤ a ∧ 12 < 13) = true from decide_eq_true ⟨h1, h2, by decide⟩, rfl, by decide, Nat.le_of_ble_eq_true rfl⟩
theorem T_285_9 : tgt 285 9 = B_285_9 := rfl
theorem R_285 (μ : Nat) (cs : List IR) (ls : LV) (x : Int32) (h : MH) (hx : x = 0 ∨ x = 1) : rn 285 μ (.ireturn :: cs) ls [.int x] h = some (some (.int x), h) := rz_of (by decide +kernel) hx
theorem C_286 (a : Nat) (x0 : Int32) (μ : Nat) (h : MH) (h1 : kd h a = 12) (h2 : 2 ≤ a) (hμ : 6 < μ) : cal 286 [.ref a, .int x0] μ h = rn 286 (6) B_286_0 [some (.ref a), some (.int x0), none, none, none] [] h := cal_of ⟨hμ, show decide (kd h a = 12 ∧ 2 ≤ a ∧ 12 < 13) = true from decide_eq_true ⟨h1, h2, by decide⟩, rfl, by decide, Nat.le_of_ble_eq_true rfl⟩
theorem T_286_15 : tgt 286 15 = B_286_15 := rfl
theorem T_286_29 : tgt 286 29 = B_286_29 := rfl
theorem T_286_76 : tgt 286 76 = B_286_76 := rfl
theorem T_286_91 : tgt 286 91 = B_286_91 := rfl
theorem T_286_94 : tgt 286 94 = B_286_94 := rfl
theorem T_286_100 : tgt 286 100 = B_286_100 := rfl
theorem R_286 (μ : Nat) (cs : List IR) (ls : LV) (x : Int32) (h : MH) : rn 286 μ (.ireturn :: cs) ls [.int x] h = some (some (.int x), h) := by
  rw [rn_fix]; rfl
theorem C_287 (a : Nat) (x0 : Int32) (μ : Nat) (h : MH) (h1 : kd h a = 12) (h2 : 2 ≤ a) (hμ : 3 < μ) : cal 287 [.ref a, .int x0] μ h = rn 287 (3) B_287_0 [some (.ref a), some (.int x0)] [] h := cal_of ⟨hμ, show decide (kd h a = 12 ∧ 2 ≤ a ∧ 12 < 13) = true from decide_eq_true ⟨h1, h2, by decide⟩, rfl, by decide, Nat.le_of_ble_eq_true rfl⟩
theorem R_287 (μ : Nat) (cs : List IR) (ls : LV) (h : MH) : rn 287 μ (.return_ :: cs) ls [] h = some (none, h) := by
  rw [rn_fix]; rfl
theorem C_288 (a : Nat) (x0 : Int32) (x1 : Int32) (μ : Nat) (h : MH) (h1 : kd h a = 12) (h2 : 2 ≤ a) (hμ : 5 < μ) : cal 288 [.ref a, .int x0, .int x1] μ h = rn 288 (5) B_288_0 [some (.ref a), some (.int x0), some (.int x1)] [] h := cal_of ⟨hμ, show decide (kd h a = 12 ∧ 2 ≤ a ∧ 12 < 13) = true from decide_eq_true ⟨h1, h2, by decide⟩, rfl, by decide, Nat.le_of_ble_eq_true rfl⟩
theorem T_288_24 : tgt 288 24 = B_288_24 := rfl
theorem T_288_26 : tgt 288 26 = B_288_26 := rfl
theorem R_288 (μ : Nat) (cs : List IR) (ls : LV) (x : Int32) (h : MH) : rn 288 μ (.ireturn :: cs) ls [.int x] h = some (some (.int x), h) := by
  rw [rn_fix]; rfl
theorem C_289 (x0 : Int32) (μ : Nat) (h : MH)  (hμ : 4 < μ) : cal 289 [.int x0] μ h = rn 289 (4) B_289_0 [some (.int x0)] [] h := cal_of ⟨hμ, rfl, rfl, by decide, Nat.le_of_ble_eq_true rfl⟩
theorem R_289 (μ : Nat) (cs : List IR) (ls : LV) (x : Int32) (h : MH) (hx : x = 0 ∨ x = 1) : rn 289 μ (.ireturn :: cs) ls [.int x] h = some (some (.int x), h) := rz_of (by decide +kernel) hx
theorem C_290 (a : Nat) (μ : Nat) (h : MH) (h1 : kd h a = 12) (h2 : 2 ≤ a) (hμ : 3 < μ) : cal 290 [.ref a] μ h = rn 290 (3) B_290_0 [some (.ref a), none] [] h := cal_of ⟨hμ, show decide (kd h a = 12 ∧ 2 ≤ a ∧ 12 < 13) = true from decide_eq_true ⟨h1, h2, by decide⟩, rfl, by decide, Nat.le_of_ble_eq_true rfl⟩
theorem R_290 (μ : Nat) (cs : List IR) (ls : LV) (x : Int32) (h : MH) : rn 290 μ (.ireturn :: cs) ls [.int x] h = some (some (.int x), h) := by
  rw [rn_fix]; rfl
theorem C_291 (a : Nat) (x0 : Int32) (μ : Nat) (h : MH) (h1 : kd h a = 12) (h2 : 2 ≤ a) (hμ : 6 < μ) : cal 291 [.ref a, .int x0] μ h = rn 291 (6) B_291_0 [some (.ref a), some (.int x0), none, none, none, none] [] h := cal_of ⟨hμ, show decide (kd h a = 12 ∧ 2 ≤ a ∧ 12 < 13) = true from decide_eq_true ⟨h1, h2, by decide⟩, rfl, by decide, Nat.le_of_ble_eq_true rfl⟩
theorem T_291_10 : tgt 291 10 = B_291_10 := rfl
theorem T_291_32 : tgt 291 32 = B_291_32 := rfl
theorem T_291_70 : tgt 291 70 = B_291_70 := rfl
theorem T_291_86 : tgt 291 86 = B_291_86 := rfl
theorem T_291_92 : tgt 291 92 = B_291_92 := rfl
theorem R_291 (μ : Nat) (cs : List IR) (ls : LV) (x : Int32) (h : MH) : rn 291 μ (.ireturn :: cs) ls [.int x] h = some (some (.int x), h) := by
  rw [rn_fix]; rfl
theorem C_292 (a : Nat) (x0 : Int32) (x1 : Int32) (μ : Nat) (h : MH) (h1 : kd h a = 12) (h2 : 2 ≤ a) (hμ : 4 < μ) : cal 292 [.ref a, .int x0, .int x1] μ h = rn 292 (4) B_292_0 [some (.ref a), some (.int x0), some (.int x1), none, none] [] h := cal_of ⟨hμ, show decide (kd h a = 12 ∧ 2 ≤ a ∧ 12 < 13) = true from decide_eq_true ⟨h1, h2, by decide⟩, rfl, by decide, Nat.le_of_ble_eq_true rfl⟩
theorem T_292_5 : tgt 292 5 = B_292_5 := rfl
theorem T_292_45 : tgt 292 45 = B_292_45 := rfl
theorem T_292_46 : tgt 292 46 = B_292_46 := rfl
theorem T_292_53 : tgt 292 53 = B_292_53 := rfl
theorem R_292 (μ : Nat) (cs : List IR) (ls : LV) (x : Int32) (h : MH) (hx : x = 0 ∨ x = 1) : rn 292 μ (.ireturn :: cs) ls [.int x] h = some (some (.int x), h) := rz_of (by decide +kernel) hx
theorem C_293 (a : Nat) (x0 : Int32) (μ : Nat) (h : MH) (h1 : kd h a = 12) (h2 : 2 ≤ a) (hμ : 6 < μ) : cal 293 [.ref a, .int x0] μ h = rn 293 (6) B_293_0 [some (.ref a), some (.int x0), none, none, none] [] h := cal_of ⟨hμ, show decide (kd h a = 12 ∧ 2 ≤ a ∧ 12 < 13) = true from decide_eq_true ⟨h1, h2, by decide⟩, rfl, by decide, Nat.le_of_ble_eq_true rfl⟩
theorem T_293_10 : tgt 293 10 = B_293_10 := rfl
theorem T_293_27 : tgt 293 27 = B_293_27 := rfl
theorem T_293_73 : tgt 293 73 = B_293_73 := rfl
theorem T_293_79 : tgt 293 79 = B_293_79 := rfl
theorem R_293 (μ : Nat) (cs : List IR) (ls : LV) (x : Int32) (h : MH) : rn 293 μ (.ireturn :: cs) ls [.int x] h = some (some (.int x), h) := by
  rw [rn_fix]; rfl
theorem C_294 (a : Nat) (x0 : Int32) (x1 : Int32) (x2 : Int32) (μ : Nat) (h : MH) (h1 : kd h a = 12) (h2 : 2 ≤ a) (hμ : 4 < μ) : cal 294 [.ref a, .int x0, .int x1, .int x2] μ h = rn 294 (4) B_294_0 [some (.ref a), some (.int x0), some (.int x1), some (.int x2), none, none] [] h := cal_of ⟨hμ, show decide (kd h a = 12 ∧ 2 ≤ a ∧ 12 < 13) = true from decide_eq_true ⟨h1, h2, by decide⟩, rfl, by decide, Nat.le_of_ble_eq_true rfl⟩
theorem T_294_6 : tgt 294 6 = B_294_6 := rfl
theorem T_294_43 : tgt 294 43 = B_294_43 := rfl
theorem T_294_44 : tgt 294 44 = B_294_44 := rfl
theorem T_294_52 : tgt 294 52 = B_294_52 := rfl
theorem R_294 (μ : Nat) (cs : List IR) (ls : LV) (x : Int32) (h : MH) (hx : x = 0 ∨ x = 1) : rn 294 μ (.ireturn :: cs) ls [.int x] h = some (some (.int x), h) := rz_of (by decide +kernel) hx
theorem C_295 (a : Nat) (x0 : Int32) (μ : Nat) (h : MH) (h1 : kd h a = 12) (h2 : 2 ≤ a) (hμ : 7 < μ) : cal 295 [.ref a, .int x0] μ h = rn 295 (7) B_295_0 [some (.ref a), some (.int x0)] [] h := cal_of ⟨hμ, show decide (kd h a = 12 ∧ 2 ≤ a ∧ 12 < 13) = true from decide_eq_true ⟨h1, h2, by decide⟩, rfl, by decide, Nat.le_of_ble_eq_true rfl⟩
theorem T_295_16 : tgt 295 16 = B_295_16 := rfl
theorem T_295_17 : tgt 295 17 = B_295_17 := rfl
theorem R_295 (μ : Nat) (cs : List IR) (ls : LV) (x : Int32) (h : MH) : rn 295 μ (.ireturn :: cs) ls [.int x] h = some (some (.int x), h) := by
  rw [rn_fix]; rfl
theorem C_296 (a : Nat) (x0 : Int32) (μ : Nat) (h : MH) (h1 : kd h a = 12) (h2 : 2 ≤ a) (hμ : 6 < μ) : cal 296 [.ref a, .int x0] μ h = rn 296 (6) B_296_0 [some (.ref a), some (.int x0)] [] h := cal_of ⟨hμ, show decide (kd h a = 12 ∧ 2 ≤ a ∧ 12 < 13) = true from decide_eq_true ⟨h1, h2, by decide⟩, rfl, by decide, Nat.le_of_ble_eq_true rfl⟩
theorem T_296_17 : tgt 296 17 = B_296_17 := rfl
theorem T_296_18 : tgt 296 18 = B_296_18 := rfl
theorem R_296 (μ : Nat) (cs : List IR) (ls : LV) (x : Int32) (h : MH) : rn 296 μ (.ireturn :: cs) ls [.int x] h = some (some (.int x), h) := by
  rw [rn_fix]; rfl
theorem C_297 (a : Nat) (x0 : Int32) (x1 : Int32) (μ : Nat) (h : MH) (h1 : kd h a = 12) (h2 : 2 ≤ a) (hμ : 8 < μ) : cal 297 [.ref a, .int x0, .int x1] μ h = rn 297 (8) B_297_0 [some (.ref a), some (.int x0), some (.int x1), none, none, none, none, none, none] [] h := cal_of ⟨hμ, show decide (kd h a = 12 ∧ 2 ≤ a ∧ 12 < 13) = true from decide_eq_true ⟨h1, h2, by decide⟩, rfl, by decide, Nat.le_of_ble_eq_true rfl⟩
theorem T_297_17 : tgt 297 17 = B_297_17 := rfl
theorem T_297_19 : tgt 297 19 = B_297_19 := rfl
theorem T_297_36 : tgt 297 36 = B_297_36 := rfl
theorem T_297_66 : tgt 297 66 = B_297_66 := rfl
theorem T_297_67 : tgt 297 67 = B_297_67 := rfl
theorem T_297_83 : tgt 297 83 = B_297_83 := rfl
theorem T_297_91 : tgt 297 91 = B_297_91 := rfl
theorem T_297_97 : tgt 297 97 = B_297_97 := rfl
theorem T_297_106 : tgt 297 106 = B_297_106 := rfl
theorem T_297_116 : tgt 297 116 = B_297_116 := rfl
theorem T_297_118 : tgt 297 118 = B_297_118 := rfl
theorem R_297 (μ : Nat) (cs : List IR) (ls : LV) (x : Int32) (h : MH) : rn 297 μ (.ireturn :: cs) ls [.int x] h = some (some (.int x), h) := by
  rw [rn_fix]; rfl
theorem C_298 (a : Nat) (x0 : Int32) (x1 : Int32) (x2 : Int32) (μ : Nat) (h : MH) (h1 : kd h a = 12) (h2 : 2 ≤ a) (hμ : 7 < μ) : cal 298 [.ref a, .int x0, .int x1, .int x2] μ h = rn 298 (7) B_298_0 [some (.ref a), some (.int x0), some (.int x1), some (.int x2), none, none] [] h := cal_of ⟨hμ, show decide (kd h a = 12 ∧ 2 ≤ a ∧ 12 < 13) = true from decide_eq_true ⟨h1, h2, by decide⟩, rfl, by decide, Nat.le_of_ble_eq_true rfl⟩
theorem T_298_31 : tgt 298 31 = B_298_31 := rfl
theorem T_298_32 : tgt 298 32 = B_298_32 := rfl
theorem R_298 (μ : Nat) (cs : List IR) (ls : LV) (x : Int32) (h : MH) : rn 298 μ (.ireturn :: cs) ls [.int x] h = some (some (.int x), h) := by
  rw [rn_fix]; rfl
theorem C_299 (a : Nat) (x0 : Int32) (x1 : Int32) (x2 : Int32) (μ : Nat) (h : MH) (h1 : kd h a = 12) (h2 : 2 ≤ a) (hμ : 4 < μ) : cal 299 [.ref a, .int x0, .int x1, .int x2] μ h = rn 299 (4) B_299_0 [some (.ref a), some (.int x0), some (.int x1), some (.int x2), none] [] h := cal_of ⟨hμ, show decide (kd h a = 12 ∧ 2 ≤ a ∧ 12 < 13) = true from decide_eq_true ⟨h1, h2, by decide⟩, rfl, by decide, Nat.le_of_ble_eq_true rfl⟩
theorem T_299_18 : tgt 299 18 = B_299_18 := rfl
theorem T_299_20 : tgt 299 20 = B_299_20 := rfl
theorem R_299 (μ : Nat) (cs : List IR) (ls : LV) (x : Int32) (h : MH) : rn 299 μ (.ireturn :: cs) ls [.int x] h = some (some (.int x), h) := by
  rw [rn_fix]; rfl
theorem C_300 (a : Nat) (x0 : Int32) (μ : Nat) (h : MH) (h1 : kd h a = 12) (h2 : 2 ≤ a) (hμ : 9 < μ) : cal 300 [.ref a, .int x0] μ h = rn 300 (9) B_300_0 [some (.ref a), some (.int x0)] [] h := cal_of ⟨hμ, show decide (kd h a = 12 ∧ 2 ≤ a ∧ 12 < 13) = true from decide_eq_true ⟨h1, h2, by decide⟩, rfl, by decide, Nat.le_of_ble_eq_true rfl⟩
theorem T_300_20 : tgt 300 20 = B_300_20 := rfl
theorem T_300_23 : tgt 300 23 = B_300_23 := rfl
theorem R_300 (μ : Nat) (cs : List IR) (ls : LV) (x : Int64) (h : MH) : rn 300 μ (.lreturn :: cs) ls [.long x] h = some (some (.long x), h) := by
  rw [rn_fix]; rfl
theorem C_301 (a : Nat) (x0 : Int32) (x1 : Int32) (μ : Nat) (h : MH) (h1 : kd h a = 12) (h2 : 2 ≤ a) (hμ : 8 < μ) : cal 301 [.ref a, .int x0, .int x1] μ h = rn 301 (8) B_301_0 [some (.ref a), some (.int x0), some (.int x1), none, none, none] [] h := cal_of ⟨hμ, show decide (kd h a = 12 ∧ 2 ≤ a ∧ 12 < 13) = true from decide_eq_true ⟨h1, h2, by decide⟩, rfl, by decide, Nat.le_of_ble_eq_true rfl⟩
theorem T_301_5 : tgt 301 5 = B_301_5 := rfl
theorem T_301_32 : tgt 301 32 = B_301_32 := rfl
theorem R_301 (μ : Nat) (cs : List IR) (ls : LV) (x : Int64) (h : MH) : rn 301 μ (.lreturn :: cs) ls [.long x] h = some (some (.long x), h) := by
  rw [rn_fix]; rfl
theorem C_302 (a : Nat) (x0 : Int32) (μ : Nat) (h : MH) (h1 : kd h a = 12) (h2 : 2 ≤ a) (hμ : 9 < μ) : cal 302 [.ref a, .int x0] μ h = rn 302 (9) B_302_0 [some (.ref a), some (.int x0), none, none, none, none, none, none, none] [] h := cal_of ⟨hμ, show decide (kd h a = 12 ∧ 2 ≤ a ∧ 12 < 13) = true from decide_eq_true ⟨h1, h2, by decide⟩, rfl, by decide, Nat.le_of_ble_eq_true rfl⟩
theorem T_302_10 : tgt 302 10 = B_302_10 := rfl
theorem T_302_28 : tgt 302 28 = B_302_28 := rfl
theorem T_302_64 : tgt 302 64 = B_302_64 := rfl
theorem T_302_88 : tgt 302 88 = B_302_88 := rfl
theorem T_302_95 : tgt 302 95 = B_302_95 := rfl
theorem T_302_101 : tgt 302 101 = B_302_101 := rfl
theorem R_302 (μ : Nat) (cs : List IR) (ls : LV) (x : Int32) (h : MH) : rn 302 μ (.ireturn :: cs) ls [.int x] h = some (some (.int x), h) := by
  rw [rn_fix]; rfl
theorem C_303 (a : Nat) (x0 : Int32) (x1 : Int32) (μ : Nat) (h : MH) (h1 : kd h a = 12) (h2 : 2 ≤ a) (hμ : 6 < μ) : cal 303 [.ref a, .int x0, .int x1] μ h = rn 303 (6) B_303_0 [some (.ref a), some (.int x0), some (.int x1), none, none, none, none, none, none, none] [] h := cal_of ⟨hμ, show decide (kd h a = 12 ∧ 2 ≤ a ∧ 12 < 13) = true from decide_eq_true ⟨h1, h2, by decide⟩, rfl, by decide, Nat.le_of_ble_eq_true rfl⟩
theorem T_303_16 : tgt 303 16 = B_303_16 := rfl
theorem T_303_18 : tgt 303 18 = B_303_18 := rfl
theorem T_303_41 : tgt 303 41 = B_303_41 := rfl
theorem T_303_98 : tgt 303 98 = B_303_98 := rfl
theorem T_303_106 : tgt 303 106 = B_303_106 := rfl
theorem T_303_112 : tgt 303 112 = B_303_112 := rfl
theorem R_303 (μ : Nat) (cs : List IR) (ls : LV) (x : Int32) (h : MH) : rn 303 μ (.ireturn :: cs) ls [.int x] h = some (some (.int x), h) := by
  rw [rn_fix]; rfl
theorem C_304 (a : Nat) (x0 : Int32) (x1 : Int32) (μ : Nat) (h : MH) (h1 : kd h a = 12) (h2 : 2 ≤ a) (hμ : 4 < μ) : cal 304 [.ref a, .int x0, .int x1] μ h = rn 304 (4) B_304_0 [some (.ref a), some (.int x0), some (.int x1), none, none] [] h := cal_of ⟨hμ, show decide (kd h a = 12 ∧ 2 ≤ a ∧ 12 < 13) = true from decide_eq_true ⟨h1, h2, by decide⟩, rfl, by decide, Nat.le_of_ble_eq_true rfl⟩
theorem T_304_5 : tgt 304 5 = B_304_5 := rfl
theorem T_304_36 : tgt 304 36 = B_304_36 := rfl
theorem T_304_37 : tgt 304 37 = B_304_37 := rfl
theorem T_304_48 : tgt 304 48 = B_304_48 := rfl
theorem R_304 (μ : Nat) (cs : List IR) (ls : LV) (x : Int32) (h : MH) : rn 304 μ (.ireturn :: cs) ls [.int x] h = some (some (.int x), h) := by
  rw [rn_fix]; rfl
theorem C_305 (a : Nat) (x0 : Int32) (x1 : Int32) (μ : Nat) (h : MH) (h1 : kd h a = 12) (h2 : 2 ≤ a) (hμ : 6 < μ) : cal 305 [.ref a, .int x0, .int x1] μ h = rn 305 (6) B_305_0 [some (.ref a), some (.int x0), some (.int x1), none, none, none] [] h := cal_of ⟨hμ, show decide (kd h a = 12 ∧ 2 ≤ a ∧ 12 < 13) = true from decide_eq_true ⟨h1, h2, by decide⟩, rfl, by decide, Nat.le_of_ble_eq_true rfl⟩
theorem T_305_21 : tgt 305 21 = B_305_21 := rfl
theorem T_305_23 : tgt 305 23 = B_305_23 := rfl
theorem T_305_34 : tgt 305 34 = B_305_34 := rfl
theorem T_305_65 : tgt 305 65 = B_305_65 := rfl
theorem T_305_80 : tgt 305 80 = B_305_80 := rfl
theorem T_305_83 : tgt 305 83 = B_305_83 := rfl
theorem T_305_89 : tgt 305 89 = B_305_89 := rfl
theorem R_305 (μ : Nat) (cs : List IR) (ls : LV) (x : Int32) (h : MH) : rn 305 μ (.ireturn :: cs) ls [.int x] h = some (some (.int x), h) := by
  rw [rn_fix]; rfl
theorem C_306 (a : Nat) (x0 : Int32) (x1 : Int32) (μ : Nat) (h : MH) (h1 : kd h a = 12) (h2 : 2 ≤ a) (hμ : 5 < μ) : cal 306 [.ref a, .int x0, .int x1] μ h = rn 306 (5) B_306_0 [some (.ref a), some (.int x0), some (.int x1), none, none, none] [] h := cal_of ⟨hμ, show decide (kd h a = 12 ∧ 2 ≤ a ∧ 12 < 13) = true from decide_eq_true ⟨h1, h2, by decide⟩, rfl, by decide, Nat.le_of_ble_eq_true rfl⟩
theorem T_306_26 : tgt 306 26 = B_306_26 := rfl
theorem T_306_29 : tgt 306 29 = B_306_29 := rfl
theorem T_306_42 : tgt 306 42 = B_306_42 := rfl
theorem T_306_48 : tgt 306 48 = B_306_48 := rfl
theorem T_306_73 : tgt 306 73 = B_306_73 := rfl
theorem T_306_82 : tgt 306 82 = B_306_82 := rfl
theorem T_306_121 : tgt 306 121 = B_306_121 := rfl
theorem R_306 (μ : Nat) (cs : List IR) (ls : LV) (x : Int32) (h : MH) : rn 306 μ (.ireturn :: cs) ls [.int x] h = some (some (.int x), h) := by
  rw [rn_fix]; rfl
theorem C_307 (a : Nat) (x0 : Int32) (x1 : Int32) (μ : Nat) (h : MH) (h1 : kd h a = 12) (h2 : 2 ≤ a) (hμ : 4 < μ) : cal 307 [.ref a, .int x0, .int x1] μ h = rn 307 (4) B_307_0 [some (.ref a), some (.int x0), some (.int x1), none, none, none, none] [] h := cal_of ⟨hμ, show decide (kd h a = 12 ∧ 2 ≤ a ∧ 12 < 13) = true from decide_eq_true ⟨h1, h2, by decide⟩, rfl, by decide, Nat.le_of_ble_eq_true rfl⟩
theorem T_307_2 : tgt 307 2 = B_307_2 := rfl
theorem T_307_22 : tgt 307 22 = B_307_22 := rfl
theorem T_307_65 : tgt 307 65 = B_307_65 := rfl
theorem T_307_88 : tgt 307 88 = B_307_88 := rfl
theorem T_307_91 : tgt 307 91 = B_307_91 := rfl
theorem T_307_117 : tgt 307 117 = B_307_117 := rfl
theorem T_307_150 : tgt 307 150 = B_307_150 := rfl
theorem T_307_170 : tgt 307 170 = B_307_170 := rfl
theorem T_307_176 : tgt 307 176 = B_307_176 := rfl
theorem T_307_182 : tgt 307 182 = B_307_182 := rfl
theorem R_307 (μ : Nat) (cs : List IR) (ls : LV) (x : Int32) (h : MH) : rn 307 μ (.ireturn :: cs) ls [.int x] h = some (some (.int x), h) := by
  rw [rn_fix]; rfl
theorem C_308 (a : Nat) (x0 : Int32) (x1 : Int32) (x2 : Int32) (μ : Nat) (h : MH) (h1 : kd h a = 12) (h2 : 2 ≤ a) (hμ : 3 < μ) : cal 308 [.ref a, .int x0, .int x1, .int x2] μ h = rn 308 (3) B_308_0 [some (.ref a), some (.int x0), some (.int x1), some (.int x2)] [] h := cal_of ⟨hμ, show decide (kd h a = 12 ∧ 2 ≤ a ∧ 12 < 13) = true from decide_eq_true ⟨h1, h2, by decide⟩, rfl, by decide, Nat.le_of_ble_eq_true rfl⟩
theorem T_308_10 : tgt 308 10 = B_308_10 := rfl
theorem R_308 (μ : Nat) (cs : List IR) (ls : LV) (h : MH) : rn 308 μ (.return_ :: cs) ls [] h = some (none, h) := by
  rw [rn_fix]; rfl
theorem C_309 (a : Nat) (x0 : Int32) (x1 : Int32) (x2 : Int32) (μ : Nat) (h : MH) (h1 : kd h a = 12) (h2 : 2 ≤ a) (hμ : 9 < μ) : cal 309 [.ref a, .int x0, .int x1, .int x2] μ h = rn 309 (9) B_309_0 [some (.ref a), some (.int x0), some (.int x1), some (.int x2), none, none] [] h := cal_of ⟨hμ, show decide (kd h a = 12 ∧ 2 ≤ a ∧ 12 < 13) = true from decide_eq_true ⟨h1, h2, by decide⟩, rfl, by decide, Nat.le_of_ble_eq_true rfl⟩
theorem T_309_26 : tgt 309 26 = B_309_26 := rfl
theorem T_309_28 : tgt 309 28 = B_309_28 := rfl
theorem T_309_50 : tgt 309 50 = B_309_50 := rfl
theorem T_309_66 : tgt 309 66 = B_309_66 := rfl
theorem T_309_73 : tgt 309 73 = B_309_73 := rfl
theorem T_309_84 : tgt 309 84 = B_309_84 := rfl
theorem T_309_99 : tgt 309 99 = B_309_99 := rfl
theorem T_309_103 : tgt 309 103 = B_309_103 := rfl
theorem R_309 (μ : Nat) (cs : List IR) (ls : LV) (x : Int32) (h : MH) : rn 309 μ (.ireturn :: cs) ls [.int x] h = some (some (.int x), h) := by
  rw [rn_fix]; rfl
theorem C_310 (a : Nat) (x0 : Int32) (x1 : Int32) (x2 : Int32) (μ : Nat) (h : MH) (h1 : kd h a = 12) (h2 : 2 ≤ a) (hμ : 6 < μ) : cal 310 [.ref a, .int x0, .int x1, .int x2] μ h = rn 310 (6) B_310_0 [some (.ref a), some (.int x0), some (.int x1), some (.int x2), none, none, none, none] [] h := cal_of ⟨hμ, show decide (kd h a = 12 ∧ 2 ≤ a ∧ 12 < 13) = true from decide_eq_true ⟨h1, h2, by decide⟩, rfl, by decide, Nat.le_of_ble_eq_true rfl⟩
theorem T_310_9 : tgt 310 9 = B_310_9 := rfl
theorem T_310_32 : tgt 310 32 = B_310_32 := rfl
theorem T_310_68 : tgt 310 68 = B_310_68 := rfl
theorem T_310_81 : tgt 310 81 = B_310_81 := rfl
theorem T_310_87 : tgt 310 87 = B_310_87 := rfl
theorem R_310 (μ : Nat) (cs : List IR) (ls : LV) (x : Int32) (h : MH) : rn 310 μ (.ireturn :: cs) ls [.int x] h = some (some (.int x), h) := by
  rw [rn_fix]; rfl
theorem C_311 (a : Nat) (x0 : Int32) (x1 : Int32) (x2 : Int32) (μ : Nat) (h : MH) (h1 : kd h a = 12) (h2 : 2 ≤ a) (hμ : 3 < μ) : cal 311 [.ref a, .int x0, .int x1, .int x2] μ h = rn 311 (3) B_311_0 [some (.ref a), some (.int x0), some (.int x1), some (.int x2)] [] h := cal_of ⟨hμ, show decide (kd h a = 12 ∧ 2 ≤ a ∧ 12 < 13) = true from decide_eq_true ⟨h1, h2, by decide⟩, rfl, by decide, Nat.le_of_ble_eq_true rfl⟩
theorem T_311_30 : tgt 311 30 = B_311_30 := rfl
theorem T_311_34 : tgt 311 34 = B_311_34 := rfl
theorem T_311_35 : tgt 311 35 = B_311_35 := rfl
theorem R_311 (μ : Nat) (cs : List IR) (ls : LV) (x : Int32) (h : MH) (hx : x = 0 ∨ x = 1) : rn 311 μ (.ireturn :: cs) ls [.int x] h = some (some (.int x), h) := rz_of (by decide +kernel) hx
theorem C_312 (x0 : Int32) (x1 : Int32) (x2 : Int32) (μ : Nat) (h : MH)  (hμ : 3 < μ) : cal 312 [.int x0, .int x1, .int x2] μ h = rn 312 (3) B_312_0 [some (.int x0), some (.int x1), some (.int x2)] [] h := cal_of ⟨hμ, rfl, rfl, by decide, Nat.le_of_ble_eq_true rfl⟩
theorem T_312_9 : tgt 312 9 = B_312_9 := rfl
theorem T_312_14 : tgt 312 14 = B_312_14 := rfl
theorem R_312 (μ : Nat) (cs : List IR) (ls : LV) (x : Int32) (h : MH) : rn 312 μ (.ireturn :: cs) ls [.int x] h = some (some (.int x), h) := by
  rw [rn_fix]; rfl
theorem C_313 (a : Nat) (x0 : Int32) (x1 : Int32) (μ : Nat) (h : MH) (h1 : kd h a = 12) (h2 : 2 ≤ a) (hμ : 5 < μ) : cal 313 [.ref a, .int x0, .int x1] μ h = rn 313 (5) B_313_0 [some (.ref a), some (.int x0), some (.int x1), none, none] [] h := cal_of ⟨hμ, show decide (kd h a = 12 ∧ 2 ≤ a ∧ 12 < 13) = true from decide_eq_true ⟨h1, h2, by decide⟩, rfl, by decide, Nat.le_of_ble_eq_true rfl⟩
theorem T_313_5 : tgt 313 5 = B_313_5 := rfl
theorem T_313_31 : tgt 313 31 = B_313_31 := rfl
theorem R_313 (μ : Nat) (cs : List IR) (ls : LV) (x : Int32) (h : MH) : rn 313 μ (.ireturn :: cs) ls [.int x] h = some (some (.int x), h) := by
  rw [rn_fix]; rfl
theorem C_314 (x0 : Int32) (x1 : Int32) (x2 : Int32) (μ : Nat) (h : MH)  (hμ : 3 < μ) : cal 314 [.int x0, .int x1, .int x2] μ h = rn 314 (3) B_314_0 [some (.int x0), some (.int x1), some (.int x2)] [] h := cal_of ⟨hμ, rfl, rfl, by decide, Nat.le_of_ble_eq_true rfl⟩
theorem T_314_13 : tgt 314 13 = B_314_13 := rfl
theorem T_314_17 : tgt 314 17 = B_314_17 := rfl
theorem T_314_26 : tgt 314 26 = B_314_26 := rfl
theorem T_314_27 : tgt 314 27 = B_314_27 := rfl
theorem R_314 (μ : Nat) (cs : List IR) (ls : LV) (x : Int32) (h : MH) (hx : x = 0 ∨ x = 1) : rn 314 μ (.ireturn :: cs) ls [.int x] h = some (some (.int x), h) := rz_of (by decide +kernel) hx
theorem C_315 (a : Nat) (x0 : Int32) (x1 : Int32) (x2 : Int32) (μ : Nat) (h : MH) (h1 : kd h a = 12) (h2 : 2 ≤ a) (hμ : 7 < μ) : cal 315 [.ref a, .int x0, .int x1, .int x2] μ h = rn 315 (7) B_315_0 [some (.ref a), some (.int x0), some (.int x1), some (.int x2), none, none, none, none, none] [] h := cal_of ⟨hμ, show decide (kd h a = 12 ∧ 2 ≤ a ∧ 12 < 13) = true from decide_eq_true ⟨h1, h2, by decide⟩, rfl, by decide, Nat.le_of_ble_eq_true rfl⟩
theorem T_315_12 : tgt 315 12 = B_315_12 := rfl
theorem T_315_35 : tgt 315 35 = B_315_35 := rfl
theorem T_315_55 : tgt 315 55 = B_315_55 := rfl
theorem T_315_56 : tgt 315 56 = B_315_56 := rfl
theorem T_315_80 : tgt 315 80 = B_315_80 := rfl
theorem T_315_91 : tgt 315 91 = B_315_91 := rfl
theorem T_315_97 : tgt 315 97 = B_315_97 := rfl
theorem R_315 (μ : Nat) (cs : List IR) (ls : LV) (x : Int32) (h : MH) : rn 315 μ (.ireturn :: cs) ls [.int x] h = some (some (.int x), h) := by
  rw [rn_fix]; rfl
theorem C_316 (a : Nat) (x0 : Int32) (x1 : Int32) (μ : Nat) (h : MH) (h1 : kd h a = 12) (h2 : 2 ≤ a) (hμ : 8 < μ) : cal 316 [.ref a, .int x0, .int x1] μ h = rn 316 (8) B_316_0 [some (.ref a), some (.int x0), some (.int x1), none, none, none, none, none] [] h := cal_of ⟨hμ, show decide (kd h a = 12 ∧ 2 ≤ a ∧ 12 < 13) = true from decide_eq_true ⟨h1, h2, by decide⟩, rfl, by decide, Nat.le_of_ble_eq_true rfl⟩
theorem T_316_11 : tgt 316 11 = B_316_11 := rfl
theorem T_316_34 : tgt 316 34 = B_316_34 := rfl
theorem T_316_70 : tgt 316 70 = B_316_70 := rfl
theorem T_316_80 : tgt 316 80 = B_316_80 := rfl
theorem T_316_86 : tgt 316 86 = B_316_86 := rfl
theorem R_316 (μ : Nat) (cs : List IR) (ls : LV) (x : Int32) (h : MH) : rn 316 μ (.ireturn :: cs) ls [.int x] h = some (some (.int x), h) := by
  rw [rn_fix]; rfl
theorem C_317 (a : Nat) (x0 : Int32) (μ : Nat) (h : MH) (h1 : kd h a = 12) (h2 : 2 ≤ a) (hμ : 4 < μ) : cal 317 [.ref a, .int x0] μ h = rn 317 (4) B_317_0 [some (.ref a), some (.int x0)] [] h := cal_of ⟨hμ, show decide (kd h a = 12 ∧ 2 ≤ a ∧ 12 < 13) = true from decide_eq_true ⟨h1, h2, by decide⟩, rfl, by decide, Nat.le_of_ble_eq_true rfl⟩
theorem T_317_23 : tgt 317 23 = B_317_23 := rfl
theorem T_317_24 : tgt 317 24 = B_317_24 := rfl
theorem R_317 (μ : Nat) (cs : List IR) (ls : LV) (x : Int32) (h : MH) : rn 317 μ (.ireturn :: cs) ls [.int x] h = some (some (.int x), h) := by
  rw [rn_fix]; rfl
theorem C_318 (a : Nat) (x0 : Int32) (x1 : Int32) (x2 : Int32) (μ : Nat) (h : MH) (h1 : kd h a = 12) (h2 : 2 ≤ a) (hμ : 5 < μ) : cal 318 [.ref a, .int x0, .int x1, .int x2] μ h = rn 318 (5) B_318_0 [some (.ref a), some (.int x0), some (.int x1), some (.int x2)] [] h := cal_of ⟨hμ, show decide (kd h a = 12 ∧ 2 ≤ a ∧ 12 < 13) = true from decide_eq_true ⟨h1, h2, by decide⟩, rfl, by decide, Nat.le_of_ble_eq_true rfl⟩
theorem T_318_32 : tgt 318 32 = B_318_32 := rfl
theorem T_318_34 : tgt 318 34 = B_318_34 := rfl
theorem R_318 (μ : Nat) (cs : List IR) (ls : LV) (x : Int32) (h : MH) : rn 318 μ (.ireturn :: cs) ls [.int x] h = some (some (.int x), h) := by
  rw [rn_fix]; rfl
theorem C_319 (a : Nat) (x0 : Int32) (μ : Nat) (h : MH) (h1 : kd h a = 12) (h2 : 2 ≤ a) (hμ : 4 < μ) : cal 319 [.ref a, .int x0] μ h = rn 319 (4) B_319_0 [some (.ref a), some (.int x0)] [] h := cal_of ⟨hμ, show decide (kd h a = 12 ∧ 2 ≤ a ∧ 12 < 13) = true from decide_eq_true ⟨h1, h2, by decide⟩, rfl, by decide, Nat.le_of_ble_eq_true rfl⟩
theorem T_319_23 : tgt 319 23 = B_319_23 := rfl
theorem T_319_25 : tgt 319 25 = B_319_25 := rfl
theorem R_319 (μ : Nat) (cs : List IR) (ls : LV) (x : Int32) (h : MH) (hx : x = 0 ∨ x = 1) : rn 319 μ (.ireturn :: cs) ls [.int x] h = some (some (.int x), h) := rz_of (by decide +kernel) hx
theorem C_320 (a : Nat) (x0 : Int32) (μ : Nat) (h : MH) (h1 : kd h a = 12) (h2 : 2 ≤ a) (hμ : 3 < μ) : cal 320 [.ref a, .int x0] μ h = rn 320 (3) B_320_0 [some (.ref a), some (.int x0)] [] h := cal_of ⟨hμ, show decide (kd h a = 12 ∧ 2 ≤ a ∧ 12 < 13) = true from decide_eq_true ⟨h1, h2, by decide⟩, rfl, by decide, Nat.le_of_ble_eq_true rfl⟩
theorem T_320_23 : tgt 320 23 = B_320_23 := rfl
theorem T_320_25 : tgt 320 25 = B_320_25 := rfl
theorem R_320 (μ : Nat) (cs : List IR) (ls : LV) (x : Int32) (h : MH) : rn 320 μ (.ireturn :: cs) ls [.int x] h = some (some (.int x), h) := by
  rw [rn_fix]; rfl
theorem C_321 (a : Nat) (x0 : Int32) (x1 : Int32) (x2 : Int32) (μ : Nat) (h : MH) (h1 : kd h a = 12) (h2 : 2 ≤ a) (hμ : 5 < μ) : cal 321 [.ref a, .int x0, .int x1, .int x2] μ h = rn 321 (5) B_321_0 [some (.ref a), some (.int x0), some (.int x1), some (.int x2), none, none, none, none] [] h := cal_of ⟨hμ, show decide (kd h a = 12 ∧ 2 ≤ a ∧ 12 < 13) = true from decide_eq_true ⟨h1, h2, by decide⟩, rfl, by decide, Nat.le_of_ble_eq_true rfl⟩
theorem T_321_17 : tgt 321 17 = B_321_17 := rfl
theorem T_321_19 : tgt 321 19 = B_321_19 := rfl
theorem T_321_33 : tgt 321 33 = B_321_33 := rfl
theorem T_321_58 : tgt 321 58 = B_321_58 := rfl
theorem T_321_75 : tgt 321 75 = B_321_75 := rfl
theorem T_321_81 : tgt 321 81 = B_321_81 := rfl
theorem T_321_90 : tgt 321 90 = B_321_90 := rfl
theorem T_321_99 : tgt 321 99 = B_321_99 := rfl
theorem T_321_109 : tgt 321 109 = B_321_109 := rfl
theorem T_321_111 : tgt 321 111 = B_321_111 := rfl
theorem R_321 (μ : Nat) (cs : List IR) (ls : LV) (x : Int32) (h : MH) : rn 321 μ (.ireturn :: cs) ls [.int x] h = some (some (.int x), h) := by
  rw [rn_fix]; rfl
theorem C_322 (a : Nat) (x0 : Int32) (x1 : Int32) (x2 : Int32) (μ : Nat) (h : MH) (h1 : kd h a = 12) (h2 : 2 ≤ a) (hμ : 4 < μ) : cal 322 [.ref a, .int x0, .int x1, .int x2] μ h = rn 322 (4) B_322_0 [some (.ref a), some (.int x0), some (.int x1), some (.int x2), none, none] [] h := cal_of ⟨hμ, show decide (kd h a = 12 ∧ 2 ≤ a ∧ 12 < 13) = true from decide_eq_true ⟨h1, h2, by decide⟩, rfl, by decide, Nat.le_of_ble_eq_true rfl⟩
theorem T_322_15 : tgt 322 15 = B_322_15 := rfl
theorem T_322_21 : tgt 322 21 = B_322_21 := rfl
theorem T_322_78 : tgt 322 78 = B_322_78 := rfl
theorem T_322_105 : tgt 322 105 = B_322_105 := rfl
theorem T_322_106 : tgt 322 106 = B_322_106 := rfl
theorem T_322_108 : tgt 322 108 = B_322_108 := rfl
theorem T_322_114 : tgt 322 114 = B_322_114 := rfl
theorem R_322 (μ : Nat) (cs : List IR) (ls : LV) (x : Int32) (h : MH) (hx : x = 0 ∨ x = 1) : rn 322 μ (.ireturn :: cs) ls [.int x] h = some (some (.int x), h) := rz_of (by decide +kernel) hx
theorem C_323 (a : Nat) (x0 : Int32) (x1 : Int32) (x2 : Int32) (μ : Nat) (h : MH) (h1 : kd h a = 12) (h2 : 2 ≤ a) (hμ : 5 < μ) : cal 323 [.ref a, .int x0, .int x1, .int x2] μ h = rn 323 (5) B_323_0 [some (.ref a), some (.int x0), some (.int x1), some (.int x2), none, none, none, none, none, none, none] [] h := cal_of ⟨hμ, show decide (kd h a = 12 ∧ 2 ≤ a ∧ 12 < 13) = true from decide_eq_true ⟨h1, h2, by decide⟩, rfl, by decide, Nat.le_of_ble_eq_true rfl⟩
theorem T_323_17 : tgt 323 17 = B_323_17 := rfl
theorem T_323_19 : tgt 323 19 = B_323_19 := rfl
theorem T_323_25 : tgt 323 25 = B_323_25 := rfl
theorem T_323_50 : tgt 323 50 = B_323_50 := rfl
theorem T_323_62 : tgt 323 62 = B_323_62 := rfl
theorem T_323_68 : tgt 323 68 = B_323_68 := rfl
theorem T_323_75 : tgt 323 75 = B_323_75 := rfl
theorem T_323_84 : tgt 323 84 = B_323_84 := rfl
theorem T_323_96 : tgt 323 96 = B_323_96 := rfl
theorem T_323_117 : tgt 323 117 = B_323_117 := rfl
theorem T_323_123 : tgt 323 123 = B_323_123 := rfl
theorem T_323_182 : tgt 323 182 = B_323_182 := rfl
theorem T_323_184 : tgt 323 184 = B_323_184 := rfl
theorem T_323_192 : tgt 323 192 = B_323_192 := rfl
theorem T_323_207 : tgt 323 207 = B_323_207 := rfl
theorem T_323_215 : tgt 323 215 = B_323_215 := rfl
theorem T_323_221 : tgt 323 221 = B_323_221 := rfl
theorem T_323_230 : tgt 323 230 = B_323_230 := rfl
theorem T_323_232 : tgt 323 232 = B_323_232 := rfl
theorem R_323 (μ : Nat) (cs : List IR) (ls : LV) (x : Int32) (h : MH) : rn 323 μ (.ireturn :: cs) ls [.int x] h = some (some (.int x), h) := by
  rw [rn_fix]; rfl
theorem C_324 (a : Nat) (x0 : Int32) (μ : Nat) (h : MH) (h1 : kd h a = 12) (h2 : 2 ≤ a) (hμ : 4 < μ) : cal 324 [.ref a, .int x0] μ h = rn 324 (4) B_324_0 [some (.ref a), some (.int x0), none] [] h := cal_of ⟨hμ, show decide (kd h a = 12 ∧ 2 ≤ a ∧ 12 < 13) = true from decide_eq_true ⟨h1, h2, by decide⟩, rfl, by decide, Nat.le_of_ble_eq_true rfl⟩
theorem T_324_9 : tgt 324 9 = B_324_9 := rfl
theorem T_324_18 : tgt 324 18 = B_324_18 := rfl
theorem T_324_47 : tgt 324 47 = B_324_47 := rfl
theorem R_324 (μ : Nat) (cs : List IR) (ls : LV) (x : Int32) (h : MH) : rn 324 μ (.ireturn :: cs) ls [.int x] h = some (some (.int x), h) := by
  rw [rn_fix]; rfl
theorem C_325 (x0 : Int32) (μ : Nat) (h : MH)  (hμ : 3 < μ) : cal 325 [.int x0] μ h = rn 325 (3) B_325_0 [some (.int x0)] [] h := cal_of ⟨hμ, rfl, rfl, by decide, Nat.le_of_ble_eq_true rfl⟩
theorem T_325_13 : tgt 325 13 = B_325_13 := rfl
theorem T_325_14 : tgt 325 14 = B_325_14 := rfl
theorem R_325 (μ : Nat) (cs : List IR) (ls : LV) (x : Int32) (h : MH) (hx : x = 0 ∨ x = 1) : rn 325 μ (.ireturn :: cs) ls [.int x] h = some (some (.int x), h) := rz_of (by decide +kernel) hx
theorem C_326 (a : Nat) (x0 : Int32) (μ : Nat) (h : MH) (h1 : kd h a = 12) (h2 : 2 ≤ a) (hμ : 4 < μ) : cal 326 [.ref a, .int x0] μ h = rn 326 (4) B_326_0 [some (.ref a), some (.int x0), none] [] h := cal_of ⟨hμ, show decide (kd h a = 12 ∧ 2 ≤ a ∧ 12 < 13) = true from decide_eq_true ⟨h1, h2, by decide⟩, rfl, by decide, Nat.le_of_ble_eq_true rfl⟩
theorem T_326_16 : tgt 326 16 = B_326_16 := rfl
theorem T_326_18 : tgt 326 18 = B_326_18 := rfl
theorem T_326_20 : tgt 326 20 = B_326_20 := rfl
theorem T_326_49 : tgt 326 49 = B_326_49 := rfl
theorem R_326 (μ : Nat) (cs : List IR) (ls : LV) (x : Int32) (h : MH) : rn 326 μ (.ireturn :: cs) ls [.int x] h = some (some (.int x), h) := by
  rw [rn_fix]; rfl
theorem C_327 (a : Nat) (x0 : Int32) (μ : Nat) (h : MH) (h1 : kd h a = 12) (h2 : 2 ≤ a) (hμ : 4 < μ) : cal 327 [.ref a, .int x0] μ h = rn 327 (4) B_327_0 [some (.ref a), some (.int x0)] [] h := cal_of ⟨hμ, show decide (kd h a = 12 ∧ 2 ≤ a ∧ 12 < 13) = true from decide_eq_true ⟨h1, h2, by decide⟩, rfl, by decide, Nat.le_of_ble_eq_true rfl⟩
theorem T_327_80 : tgt 327 80 = B_327_80 := rfl
theorem T_327_85 : tgt 327 85 = B_327_85 := rfl
theorem T_327_90 : tgt 327 90 = B_327_90 := rfl
theorem T_327_95 : tgt 327 95 = B_327_95 := rfl
theorem T_327_100 : tgt 327 100 = B_327_100 := rfl
theorem T_327_107 : tgt 327 107 = B_327_107 := rfl
theorem T_327_114 : tgt 327 114 = B_327_114 := rfl
theorem T_327_124 : tgt 327 124 = B_327_124 := rfl
theorem T_327_129 : tgt 327 129 = B_327_129 := rfl
theorem T_327_134 : tgt 327 134 = B_327_134 := rfl
theorem T_327_139 : tgt 327 139 = B_327_139 := rfl
theorem T_327_144 : tgt 327 144 = B_327_144 := rfl
theorem T_327_149 : tgt 327 149 = B_327_149 := rfl
theorem T_327_154 : tgt 327 154 = B_327_154 := rfl
theorem T_327_159 : tgt 327 159 = B_327_159 := rfl
theorem T_327_164 : tgt 327 164 = B_327_164 := rfl
theorem T_327_169 : tgt 327 169 = B_327_169 := rfl
theorem R_327 (μ : Nat) (cs : List IR) (ls : LV) (x : Int32) (h : MH) : rn 327 μ (.ireturn :: cs) ls [.int x] h = some (some (.int x), h) := by
  rw [rn_fix]; rfl
