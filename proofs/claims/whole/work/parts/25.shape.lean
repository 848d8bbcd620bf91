/-! WHERE THINGS LIE once the constructors are through; by program -/
def SH (L : Nat) : List (Nat × Nat) := [(20, L), (21, 20), (11, 10), (5, 18), (4, 2), (21, 4), (20, 4), (4, 2), (21, 3), (20, 3), (20, 3), (4, 2), (21, 12), (20, 12), (20, 12), (20, 12), (20, 12), (20, 12), (1, 6), (22, 640), (20, 13), (20, 13), (20, 32), (5, 18), (4, 2), (21, 4), (20, 4), (4, 2), (21, 3), (20, 3), (20, 3), (4, 2), (21, 12), (20, 12), (20, 12), (20, 12), (20, 12), (20, 12), (1, 6), (22, 640), (20, 13), (20, 13), (20, 32), (9, 7), (23, 1600), (6, 6), (0, 8), (20, 4), (20, 4), (22, 256), (20, 256), (20, 12), (22, 4096), (8, 6), (20, 1188), (10, 3), (20, 20), (20, 20), (2, 7), (20, 30), (20, 30), (20, 30), (20, 30), (20, 30), (3, 2), (20, 40), (12, 88), (20, 1600), (21, 20), (20, 4160), (20, 4160), (20, 13), (20, 4160), (20, 4160), (20, 13), (20, 160), (20, 64), (20, 4), (20, 3), (20, 12), (20, 12), (20, 12), (20, 12), (20, 12), (20, 4), (20, 3), (20, 12), (20, 12), (20, 12), (20, 12), (20, 12), (20, 3), (20, 256), (20, 12), (20, 32), (20, 1280), (20, 4096), (20, 20), (20, 20), (20, 4096), (20, 4096), (20, 4096), (24, 4096), (20, 30), (20, 30), (20, 30), (20, 30), (20, 30), (20, 4096), (20, 102), (24, 3), (20, 96)]
def Shp (h : MH) : Prop := ∃ L ext, h.1 = SH L ++ ext
def RTB : List (Nat × Nat × Nat) := [(2, 0, 43), (2, 1, 45), (2, 2, 46), (2, 3, 53), (2, 4, 55), (2, 5, 58), (2, 6, 64), (3, 0, 4), (3, 1, 6), (3, 2, 7), (3, 3, 9), (3, 4, 10), (3, 5, 11), (3, 6, 13), (3, 7, 14), (3, 8, 15), (3, 9, 16), (3, 10, 17), (3, 11, 18), (4, 0, 5), (7, 0, 8), (11, 0, 12), (18, 0, 19), (18, 2, 20), (18, 3, 21), (18, 4, 22), (23, 0, 24), (23, 1, 26), (23, 2, 27), (23, 3, 29), (23, 4, 30), (23, 5, 31), (23, 6, 33), (23, 7, 34), (23, 8, 35), (23, 9, 36), (23, 10, 37), (23, 11, 38), (24, 0, 25), (27, 0, 28), (31, 0, 32), (38, 0, 39), (38, 2, 40), (38, 3, 41), (38, 4, 42), (43, 0, 44), (45, 0, 43), (46, 2, 47), (46, 3, 48), (46, 4, 49), (46, 5, 50), (46, 6, 51), (46, 7, 52), (53, 1, 54), (55, 0, 56), (55, 1, 57), (58, 0, 59), (58, 1, 60), (58, 2, 61), (58, 3, 62), (58, 4, 63), (66, 0, 67), (66, 10, 68), (66, 11, 69), (66, 12, 70), (66, 13, 71), (66, 14, 72), (66, 15, 73), (66, 16, 74), (66, 17, 75), (66, 18, 76), (66, 25, 77), (66, 26, 78), (66, 27, 79), (66, 28, 80), (66, 29, 81), (66, 30, 82), (66, 31, 83), (66, 32, 84), (66, 33, 85), (66, 34, 86), (66, 35, 87), (66, 36, 88), (66, 37, 89), (66, 38, 90), (66, 39, 91), (66, 60, 92), (66, 61, 93), (66, 62, 94), (66, 63, 95), (66, 66, 96), (66, 68, 97), (66, 69, 98), (66, 71, 99), (66, 72, 100), (66, 73, 101), (66, 74, 102), (66, 77, 103), (66, 78, 104), (66, 79, 105), (66, 80, 106), (66, 81, 107), (66, 84, 108), (66, 85, 109), (66, 86, 110), (66, 87, 111)]
def St (h : MH) : Prop := Shp h ∧ ∀ q ∈ RTB, gR h q.1 q.2.1 = .ref q.2.2
theorem kd_of {h : MH} {L : Nat} {ext : List (Nat × Nat)} (e : h.1 = SH L ++ ext) (a : Nat) : kd h a = ((SH L ++ ext).getD a (99, 0)).1 := by unfold kd; rw [e]
theorem ln_of {h : MH} {L : Nat} {ext : List (Nat × Nat)} (e : h.1 = SH L ++ ext) (a : Nat) : ln h a = ((SH L ++ ext).getD a (99, 0)).2 := by unfold ln; rw [e]
theorem K_0 {h : MH} (hS : St h) : kd h 0 = 20 := by obtain ⟨⟨L, ext, e⟩, -⟩ := hS; exact kd_of e 0
theorem K_1 {h : MH} (hS : St h) : kd h 1 = 21 := by obtain ⟨⟨L, ext, e⟩, -⟩ := hS; exact kd_of e 1
theorem N_1 {h : MH} (hS : St h) : ln h 1 = 20 := by obtain ⟨⟨L, ext, e⟩, -⟩ := hS; exact ln_of e 1
theorem K_2 {h : MH} (hS : St h) : kd h 2 = 11 := by obtain ⟨⟨L, ext, e⟩, -⟩ := hS; exact kd_of e 2
theorem K_3 {h : MH} (hS : St h) : kd h 3 = 5 := by obtain ⟨⟨L, ext, e⟩, -⟩ := hS; exact kd_of e 3
theorem K_4 {h : MH} (hS : St h) : kd h 4 = 4 := by obtain ⟨⟨L, ext, e⟩, -⟩ := hS; exact kd_of e 4
theorem K_5 {h : MH} (hS : St h) : kd h 5 = 21 := by obtain ⟨⟨L, ext, e⟩, -⟩ := hS; exact kd_of e 5
theorem N_5 {h : MH} (hS : St h) : ln h 5 = 4 := by obtain ⟨⟨L, ext, e⟩, -⟩ := hS; exact ln_of e 5
theorem K_6 {h : MH} (hS : St h) : kd h 6 = 20 := by obtain ⟨⟨L, ext, e⟩, -⟩ := hS; exact kd_of e 6
theorem N_6 {h : MH} (hS : St h) : ln h 6 = 4 := by obtain ⟨⟨L, ext, e⟩, -⟩ := hS; exact ln_of e 6
theorem K_7 {h : MH} (hS : St h) : kd h 7 = 4 := by obtain ⟨⟨L, ext, e⟩, -⟩ := hS; exact kd_of e 7
theorem K_8 {h : MH} (hS : St h) : kd h 8 = 21 := by obtain ⟨⟨L, ext, e⟩, -⟩ := hS; exact kd_of e 8
theorem N_8 {h : MH} (hS : St h) : ln h 8 = 3 := by obtain ⟨⟨L, ext, e⟩, -⟩ := hS; exact ln_of e 8
theorem K_9 {h : MH} (hS : St h) : kd h 9 = 20 := by obtain ⟨⟨L, ext, e⟩, -⟩ := hS; exact kd_of e 9
theorem N_9 {h : MH} (hS : St h) : ln h 9 = 3 := by obtain ⟨⟨L, ext, e⟩, -⟩ := hS; exact ln_of e 9
theorem K_10 {h : MH} (hS : St h) : kd h 10 = 20 := by obtain ⟨⟨L, ext, e⟩, -⟩ := hS; exact kd_of e 10
theorem N_10 {h : MH} (hS : St h) : ln h 10 = 3 := by obtain ⟨⟨L, ext, e⟩, -⟩ := hS; exact ln_of e 10
theorem K_11 {h : MH} (hS : St h) : kd h 11 = 4 := by obtain ⟨⟨L, ext, e⟩, -⟩ := hS; exact kd_of e 11
theorem K_12 {h : MH} (hS : St h) : kd h 12 = 21 := by obtain ⟨⟨L, ext, e⟩, -⟩ := hS; exact kd_of e 12
theorem N_12 {h : MH} (hS : St h) : ln h 12 = 12 := by obtain ⟨⟨L, ext, e⟩, -⟩ := hS; exact ln_of e 12
theorem K_13 {h : MH} (hS : St h) : kd h 13 = 20 := by obtain ⟨⟨L, ext, e⟩, -⟩ := hS; exact kd_of e 13
theorem N_13 {h : MH} (hS : St h) : ln h 13 = 12 := by obtain ⟨⟨L, ext, e⟩, -⟩ := hS; exact ln_of e 13
theorem K_14 {h : MH} (hS : St h) : kd h 14 = 20 := by obtain ⟨⟨L, ext, e⟩, -⟩ := hS; exact kd_of e 14
theorem N_14 {h : MH} (hS : St h) : ln h 14 = 12 := by obtain ⟨⟨L, ext, e⟩, -⟩ := hS; exact ln_of e 14
theorem K_15 {h : MH} (hS : St h) : kd h 15 = 20 := by obtain ⟨⟨L, ext, e⟩, -⟩ := hS; exact kd_of e 15
theorem N_15 {h : MH} (hS : St h) : ln h 15 = 12 := by obtain ⟨⟨L, ext, e⟩, -⟩ := hS; exact ln_of e 15
theorem K_16 {h : MH} (hS : St h) : kd h 16 = 20 := by obtain ⟨⟨L, ext, e⟩, -⟩ := hS; exact kd_of e 16
theorem N_16 {h : MH} (hS : St h) : ln h 16 = 12 := by obtain ⟨⟨L, ext, e⟩, -⟩ := hS; exact ln_of e 16
theorem K_17 {h : MH} (hS : St h) : kd h 17 = 20 := by obtain ⟨⟨L, ext, e⟩, -⟩ := hS; exact kd_of e 17
theorem N_17 {h : MH} (hS : St h) : ln h 17 = 12 := by obtain ⟨⟨L, ext, e⟩, -⟩ := hS; exact ln_of e 17
theorem K_18 {h : MH} (hS : St h) : kd h 18 = 1 := by obtain ⟨⟨L, ext, e⟩, -⟩ := hS; exact kd_of e 18
theorem K_19 {h : MH} (hS : St h) : kd h 19 = 22 := by obtain ⟨⟨L, ext, e⟩, -⟩ := hS; exact kd_of e 19
theorem N_19 {h : MH} (hS : St h) : ln h 19 = 640 := by obtain ⟨⟨L, ext, e⟩, -⟩ := hS; exact ln_of e 19
theorem K_20 {h : MH} (hS : St h) : kd h 20 = 20 := by obtain ⟨⟨L, ext, e⟩, -⟩ := hS; exact kd_of e 20
theorem N_20 {h : MH} (hS : St h) : ln h 20 = 13 := by obtain ⟨⟨L, ext, e⟩, -⟩ := hS; exact ln_of e 20
theorem K_21 {h : MH} (hS : St h) : kd h 21 = 20 := by obtain ⟨⟨L, ext, e⟩, -⟩ := hS; exact kd_of e 21
theorem N_21 {h : MH} (hS : St h) : ln h 21 = 13 := by obtain ⟨⟨L, ext, e⟩, -⟩ := hS; exact ln_of e 21
theorem K_22 {h : MH} (hS : St h) : kd h 22 = 20 := by obtain ⟨⟨L, ext, e⟩, -⟩ := hS; exact kd_of e 22
theorem N_22 {h : MH} (hS : St h) : ln h 22 = 32 := by obtain ⟨⟨L, ext, e⟩, -⟩ := hS; exact ln_of e 22
theorem K_23 {h : MH} (hS : St h) : kd h 23 = 5 := by obtain ⟨⟨L, ext, e⟩, -⟩ := hS; exact kd_of e 23
theorem K_24 {h : MH} (hS : St h) : kd h 24 = 4 := by obtain ⟨⟨L, ext, e⟩, -⟩ := hS; exact kd_of e 24
theorem K_25 {h : MH} (hS : St h) : kd h 25 = 21 := by obtain ⟨⟨L, ext, e⟩, -⟩ := hS; exact kd_of e 25
theorem N_25 {h : MH} (hS : St h) : ln h 25 = 4 := by obtain ⟨⟨L, ext, e⟩, -⟩ := hS; exact ln_of e 25
theorem K_26 {h : MH} (hS : St h) : kd h 26 = 20 := by obtain ⟨⟨L, ext, e⟩, -⟩ := hS; exact kd_of e 26
theorem N_26 {h : MH} (hS : St h) : ln h 26 = 4 := by obtain ⟨⟨L, ext, e⟩, -⟩ := hS; exact ln_of e 26
theorem K_27 {h : MH} (hS : St h) : kd h 27 = 4 := by obtain ⟨⟨L, ext, e⟩, -⟩ := hS; exact kd_of e 27
theorem K_28 {h : MH} (hS : St h) : kd h 28 = 21 := by obtain ⟨⟨L, ext, e⟩, -⟩ := hS; exact kd_of e 28
theorem N_28 {h : MH} (hS : St h) : ln h 28 = 3 := by obtain ⟨⟨L, ext, e⟩, -⟩ := hS; exact ln_of e 28
theorem K_29 {h : MH} (hS : St h) : kd h 29 = 20 := by obtain ⟨⟨L, ext, e⟩, -⟩ := hS; exact kd_of e 29
theorem N_29 {h : MH} (hS : St h) : ln h 29 = 3 := by obtain ⟨⟨L, ext, e⟩, -⟩ := hS; exact ln_of e 29
theorem K_30 {h : MH} (hS : St h) : kd h 30 = 20 := by obtain ⟨⟨L, ext, e⟩, -⟩ := hS; exact kd_of e 30
theorem N_30 {h : MH} (hS : St h) : ln h 30 = 3 := by obtain ⟨⟨L, ext, e⟩, -⟩ := hS; exact ln_of e 30
theorem K_31 {h : MH} (hS : St h) : kd h 31 = 4 := by obtain ⟨⟨L, ext, e⟩, -⟩ := hS; exact kd_of e 31
theorem K_32 {h : MH} (hS : St h) : kd h 32 = 21 := by obtain ⟨⟨L, ext, e⟩, -⟩ := hS; exact kd_of e 32
theorem N_32 {h : MH} (hS : St h) : ln h 32 = 12 := by obtain ⟨⟨L, ext, e⟩, -⟩ := hS; exact ln_of e 32
theorem K_33 {h : MH} (hS : St h) : kd h 33 = 20 := by obtain ⟨⟨L, ext, e⟩, -⟩ := hS; exact kd_of e 33
theorem N_33 {h : MH} (hS : St h) : ln h 33 = 12 := by obtain ⟨⟨L, ext, e⟩, -⟩ := hS; exact ln_of e 33
theorem K_34 {h : MH} (hS : St h) : kd h 34 = 20 := by obtain ⟨⟨L, ext, e⟩, -⟩ := hS; exact kd_of e 34
theorem N_34 {h : MH} (hS : St h) : ln h 34 = 12 := by obtain ⟨⟨L, ext, e⟩, -⟩ := hS; exact ln_of e 34
theorem K_35 {h : MH} (hS : St h) : kd h 35 = 20 := by obtain ⟨⟨L, ext, e⟩, -⟩ := hS; exact kd_of e 35
theorem N_35 {h : MH} (hS : St h) : ln h 35 = 12 := by obtain ⟨⟨L, ext, e⟩, -⟩ := hS; exact ln_of e 35
theorem K_36 {h : MH} (hS : St h) : kd h 36 = 20 := by obtain ⟨⟨L, ext, e⟩, -⟩ := hS; exact kd_of e 36
theorem N_36 {h : MH} (hS : St h) : ln h 36 = 12 := by obtain ⟨⟨L, ext, e⟩, -⟩ := hS; exact ln_of e 36
theorem K_37 {h : MH} (hS : St h) : kd h 37 = 20 := by obtain ⟨⟨L, ext, e⟩, -⟩ := hS; exact kd_of e 37
theorem N_37 {h : MH} (hS : St h) : ln h 37 = 12 := by obtain ⟨⟨L, ext, e⟩, -⟩ := hS; exact ln_of e 37
theorem K_38 {h : MH} (hS : St h) : kd h 38 = 1 := by obtain ⟨⟨L, ext, e⟩, -⟩ := hS; exact kd_of e 38
theorem K_39 {h : MH} (hS : St h) : kd h 39 = 22 := by obtain ⟨⟨L, ext, e⟩, -⟩ := hS; exact kd_of e 39
theorem N_39 {h : MH} (hS : St h) : ln h 39 = 640 := by obtain ⟨⟨L, ext, e⟩, -⟩ := hS; exact ln_of e 39
theorem K_40 {h : MH} (hS : St h) : kd h 40 = 20 := by obtain ⟨⟨L, ext, e⟩, -⟩ := hS; exact kd_of e 40
theorem N_40 {h : MH} (hS : St h) : ln h 40 = 13 := by obtain ⟨⟨L, ext, e⟩, -⟩ := hS; exact ln_of e 40
theorem K_41 {h : MH} (hS : St h) : kd h 41 = 20 := by obtain ⟨⟨L, ext, e⟩, -⟩ := hS; exact kd_of e 41
theorem N_41 {h : MH} (hS : St h) : ln h 41 = 13 := by obtain ⟨⟨L, ext, e⟩, -⟩ := hS; exact ln_of e 41
theorem K_42 {h : MH} (hS : St h) : kd h 42 = 20 := by obtain ⟨⟨L, ext, e⟩, -⟩ := hS; exact kd_of e 42
theorem N_42 {h : MH} (hS : St h) : ln h 42 = 32 := by obtain ⟨⟨L, ext, e⟩, -⟩ := hS; exact ln_of e 42
theorem K_43 {h : MH} (hS : St h) : kd h 43 = 9 := by obtain ⟨⟨L, ext, e⟩, -⟩ := hS; exact kd_of e 43
theorem K_44 {h : MH} (hS : St h) : kd h 44 = 23 := by obtain ⟨⟨L, ext, e⟩, -⟩ := hS; exact kd_of e 44
theorem N_44 {h : MH} (hS : St h) : ln h 44 = 1600 := by obtain ⟨⟨L, ext, e⟩, -⟩ := hS; exact ln_of e 44
theorem K_45 {h : MH} (hS : St h) : kd h 45 = 6 := by obtain ⟨⟨L, ext, e⟩, -⟩ := hS; exact kd_of e 45
theorem K_46 {h : MH} (hS : St h) : kd h 46 = 0 := by obtain ⟨⟨L, ext, e⟩, -⟩ := hS; exact kd_of e 46
theorem K_47 {h : MH} (hS : St h) : kd h 47 = 20 := by obtain ⟨⟨L, ext, e⟩, -⟩ := hS; exact kd_of e 47
theorem N_47 {h : MH} (hS : St h) : ln h 47 = 4 := by obtain ⟨⟨L, ext, e⟩, -⟩ := hS; exact ln_of e 47
theorem K_48 {h : MH} (hS : St h) : kd h 48 = 20 := by obtain ⟨⟨L, ext, e⟩, -⟩ := hS; exact kd_of e 48
theorem N_48 {h : MH} (hS : St h) : ln h 48 = 4 := by obtain ⟨⟨L, ext, e⟩, -⟩ := hS; exact ln_of e 48
theorem K_49 {h : MH} (hS : St h) : kd h 49 = 22 := by obtain ⟨⟨L, ext, e⟩, -⟩ := hS; exact kd_of e 49
theorem N_49 {h : MH} (hS : St h) : ln h 49 = 256 := by obtain ⟨⟨L, ext, e⟩, -⟩ := hS; exact ln_of e 49
theorem K_50 {h : MH} (hS : St h) : kd h 50 = 20 := by obtain ⟨⟨L, ext, e⟩, -⟩ := hS; exact kd_of e 50
theorem N_50 {h : MH} (hS : St h) : ln h 50 = 256 := by obtain ⟨⟨L, ext, e⟩, -⟩ := hS; exact ln_of e 50
theorem K_51 {h : MH} (hS : St h) : kd h 51 = 20 := by obtain ⟨⟨L, ext, e⟩, -⟩ := hS; exact kd_of e 51
theorem N_51 {h : MH} (hS : St h) : ln h 51 = 12 := by obtain ⟨⟨L, ext, e⟩, -⟩ := hS; exact ln_of e 51
theorem K_52 {h : MH} (hS : St h) : kd h 52 = 22 := by obtain ⟨⟨L, ext, e⟩, -⟩ := hS; exact kd_of e 52
theorem N_52 {h : MH} (hS : St h) : ln h 52 = 4096 := by obtain ⟨⟨L, ext, e⟩, -⟩ := hS; exact ln_of e 52
theorem K_53 {h : MH} (hS : St h) : kd h 53 = 8 := by obtain ⟨⟨L, ext, e⟩, -⟩ := hS; exact kd_of e 53
theorem K_54 {h : MH} (hS : St h) : kd h 54 = 20 := by obtain ⟨⟨L, ext, e⟩, -⟩ := hS; exact kd_of e 54
theorem N_54 {h : MH} (hS : St h) : ln h 54 = 1188 := by obtain ⟨⟨L, ext, e⟩, -⟩ := hS; exact ln_of e 54
theorem K_55 {h : MH} (hS : St h) : kd h 55 = 10 := by obtain ⟨⟨L, ext, e⟩, -⟩ := hS; exact kd_of e 55
theorem K_56 {h : MH} (hS : St h) : kd h 56 = 20 := by obtain ⟨⟨L, ext, e⟩, -⟩ := hS; exact kd_of e 56
theorem N_56 {h : MH} (hS : St h) : ln h 56 = 20 := by obtain ⟨⟨L, ext, e⟩, -⟩ := hS; exact ln_of e 56
theorem K_57 {h : MH} (hS : St h) : kd h 57 = 20 := by obtain ⟨⟨L, ext, e⟩, -⟩ := hS; exact kd_of e 57
theorem N_57 {h : MH} (hS : St h) : ln h 57 = 20 := by obtain ⟨⟨L, ext, e⟩, -⟩ := hS; exact ln_of e 57
theorem K_58 {h : MH} (hS : St h) : kd h 58 = 2 := by obtain ⟨⟨L, ext, e⟩, -⟩ := hS; exact kd_of e 58
theorem K_59 {h : MH} (hS : St h) : kd h 59 = 20 := by obtain ⟨⟨L, ext, e⟩, -⟩ := hS; exact kd_of e 59
theorem N_59 {h : MH} (hS : St h) : ln h 59 = 30 := by obtain ⟨⟨L, ext, e⟩, -⟩ := hS; exact ln_of e 59
theorem K_60 {h : MH} (hS : St h) : kd h 60 = 20 := by obtain ⟨⟨L, ext, e⟩, -⟩ := hS; exact kd_of e 60
theorem N_60 {h : MH} (hS : St h) : ln h 60 = 30 := by obtain ⟨⟨L, ext, e⟩, -⟩ := hS; exact ln_of e 60
theorem K_61 {h : MH} (hS : St h) : kd h 61 = 20 := by obtain ⟨⟨L, ext, e⟩, -⟩ := hS; exact kd_of e 61
theorem N_61 {h : MH} (hS : St h) : ln h 61 = 30 := by obtain ⟨⟨L, ext, e⟩, -⟩ := hS; exact ln_of e 61
theorem K_62 {h : MH} (hS : St h) : kd h 62 = 20 := by obtain ⟨⟨L, ext, e⟩, -⟩ := hS; exact kd_of e 62
theorem N_62 {h : MH} (hS : St h) : ln h 62 = 30 := by obtain ⟨⟨L, ext, e⟩, -⟩ := hS; exact ln_of e 62
theorem K_63 {h : MH} (hS : St h) : kd h 63 = 20 := by obtain ⟨⟨L, ext, e⟩, -⟩ := hS; exact kd_of e 63
theorem N_63 {h : MH} (hS : St h) : ln h 63 = 30 := by obtain ⟨⟨L, ext, e⟩, -⟩ := hS; exact ln_of e 63
theorem K_64 {h : MH} (hS : St h) : kd h 64 = 3 := by obtain ⟨⟨L, ext, e⟩, -⟩ := hS; exact kd_of e 64
theorem K_65 {h : MH} (hS : St h) : kd h 65 = 20 := by obtain ⟨⟨L, ext, e⟩, -⟩ := hS; exact kd_of e 65
theorem N_65 {h : MH} (hS : St h) : ln h 65 = 40 := by obtain ⟨⟨L, ext, e⟩, -⟩ := hS; exact ln_of e 65
theorem K_66 {h : MH} (hS : St h) : kd h 66 = 12 := by obtain ⟨⟨L, ext, e⟩, -⟩ := hS; exact kd_of e 66
theorem K_67 {h : MH} (hS : St h) : kd h 67 = 20 := by obtain ⟨⟨L, ext, e⟩, -⟩ := hS; exact kd_of e 67
theorem N_67 {h : MH} (hS : St h) : ln h 67 = 1600 := by obtain ⟨⟨L, ext, e⟩, -⟩ := hS; exact ln_of e 67
theorem K_68 {h : MH} (hS : St h) : kd h 68 = 21 := by obtain ⟨⟨L, ext, e⟩, -⟩ := hS; exact kd_of e 68
theorem N_68 {h : MH} (hS : St h) : ln h 68 = 20 := by obtain ⟨⟨L, ext, e⟩, -⟩ := hS; exact ln_of e 68
theorem K_69 {h : MH} (hS : St h) : kd h 69 = 20 := by obtain ⟨⟨L, ext, e⟩, -⟩ := hS; exact kd_of e 69
theorem N_69 {h : MH} (hS : St h) : ln h 69 = 4160 := by obtain ⟨⟨L, ext, e⟩, -⟩ := hS; exact ln_of e 69
theorem K_70 {h : MH} (hS : St h) : kd h 70 = 20 := by obtain ⟨⟨L, ext, e⟩, -⟩ := hS; exact kd_of e 70
theorem N_70 {h : MH} (hS : St h) : ln h 70 = 4160 := by obtain ⟨⟨L, ext, e⟩, -⟩ := hS; exact ln_of e 70
theorem K_71 {h : MH} (hS : St h) : kd h 71 = 20 := by obtain ⟨⟨L, ext, e⟩, -⟩ := hS; exact kd_of e 71
theorem N_71 {h : MH} (hS : St h) : ln h 71 = 13 := by obtain ⟨⟨L, ext, e⟩, -⟩ := hS; exact ln_of e 71
theorem K_72 {h : MH} (hS : St h) : kd h 72 = 20 := by obtain ⟨⟨L, ext, e⟩, -⟩ := hS; exact kd_of e 72
theorem N_72 {h : MH} (hS : St h) : ln h 72 = 4160 := by obtain ⟨⟨L, ext, e⟩, -⟩ := hS; exact ln_of e 72
theorem K_73 {h : MH} (hS : St h) : kd h 73 = 20 := by obtain ⟨⟨L, ext, e⟩, -⟩ := hS; exact kd_of e 73
theorem N_73 {h : MH} (hS : St h) : ln h 73 = 4160 := by obtain ⟨⟨L, ext, e⟩, -⟩ := hS; exact ln_of e 73
theorem K_74 {h : MH} (hS : St h) : kd h 74 = 20 := by obtain ⟨⟨L, ext, e⟩, -⟩ := hS; exact kd_of e 74
theorem N_74 {h : MH} (hS : St h) : ln h 74 = 13 := by obtain ⟨⟨L, ext, e⟩, -⟩ := hS; exact ln_of e 74
theorem K_75 {h : MH} (hS : St h) : kd h 75 = 20 := by obtain ⟨⟨L, ext, e⟩, -⟩ := hS; exact kd_of e 75
theorem N_75 {h : MH} (hS : St h) : ln h 75 = 160 := by obtain ⟨⟨L, ext, e⟩, -⟩ := hS; exact ln_of e 75
theorem K_76 {h : MH} (hS : St h) : kd h 76 = 20 := by obtain ⟨⟨L, ext, e⟩, -⟩ := hS; exact kd_of e 76
theorem N_76 {h : MH} (hS : St h) : ln h 76 = 64 := by obtain ⟨⟨L, ext, e⟩, -⟩ := hS; exact ln_of e 76
theorem K_77 {h : MH} (hS : St h) : kd h 77 = 20 := by obtain ⟨⟨L, ext, e⟩, -⟩ := hS; exact kd_of e 77
theorem N_77 {h : MH} (hS : St h) : ln h 77 = 4 := by obtain ⟨⟨L, ext, e⟩, -⟩ := hS; exact ln_of e 77
theorem K_78 {h : MH} (hS : St h) : kd h 78 = 20 := by obtain ⟨⟨L, ext, e⟩, -⟩ := hS; exact kd_of e 78
theorem N_78 {h : MH} (hS : St h) : ln h 78 = 3 := by obtain ⟨⟨L, ext, e⟩, -⟩ := hS; exact ln_of e 78
theorem K_79 {h : MH} (hS : St h) : kd h 79 = 20 := by obtain ⟨⟨L, ext, e⟩, -⟩ := hS; exact kd_of e 79
theorem N_79 {h : MH} (hS : St h) : ln h 79 = 12 := by obtain ⟨⟨L, ext, e⟩, -⟩ := hS; exact ln_of e 79
theorem K_80 {h : MH} (hS : St h) : kd h 80 = 20 := by obtain ⟨⟨L, ext, e⟩, -⟩ := hS; exact kd_of e 80
theorem N_80 {h : MH} (hS : St h) : ln h 80 = 12 := by obtain ⟨⟨L, ext, e⟩, -⟩ := hS; exact ln_of e 80
theorem K_81 {h : MH} (hS : St h) : kd h 81 = 20 := by obtain ⟨⟨L, ext, e⟩, -⟩ := hS; exact kd_of e 81
theorem N_81 {h : MH} (hS : St h) : ln h 81 = 12 := by obtain ⟨⟨L, ext, e⟩, -⟩ := hS; exact ln_of e 81
theorem K_82 {h : MH} (hS : St h) : kd h 82 = 20 := by obtain ⟨⟨L, ext, e⟩, -⟩ := hS; exact kd_of e 82
theorem N_82 {h : MH} (hS : St h) : ln h 82 = 12 := by obtain ⟨⟨L, ext, e⟩, -⟩ := hS; exact ln_of e 82
theorem K_83 {h : MH} (hS : St h) : kd h 83 = 20 := by obtain ⟨⟨L, ext, e⟩, -⟩ := hS; exact kd_of e 83
theorem N_83 {h : MH} (hS : St h) : ln h 83 = 12 := by obtain ⟨⟨L, ext, e⟩, -⟩ := hS; exact ln_of e 83
theorem K_84 {h : MH} (hS : St h) : kd h 84 = 20 := by obtain ⟨⟨L, ext, e⟩, -⟩ := hS; exact kd_of e 84
theorem N_84 {h : MH} (hS : St h) : ln h 84 = 4 := by obtain ⟨⟨L, ext, e⟩, -⟩ := hS; exact ln_of e 84
theorem K_85 {h : MH} (hS : St h) : kd h 85 = 20 := by obtain ⟨⟨L, ext, e⟩, -⟩ := hS; exact kd_of e 85
theorem N_85 {h : MH} (hS : St h) : ln h 85 = 3 := by obtain ⟨⟨L, ext, e⟩, -⟩ := hS; exact ln_of e 85
theorem K_86 {h : MH} (hS : St h) : kd h 86 = 20 := by obtain ⟨⟨L, ext, e⟩, -⟩ := hS; exact kd_of e 86
theorem N_86 {h : MH} (hS : St h) : ln h 86 = 12 := by obtain ⟨⟨L, ext, e⟩, -⟩ := hS; exact ln_of e 86
theorem K_87 {h : MH} (hS : St h) : kd h 87 = 20 := by obtain ⟨⟨L, ext, e⟩, -⟩ := hS; exact kd_of e 87
theorem N_87 {h : MH} (hS : St h) : ln h 87 = 12 := by obtain ⟨⟨L, ext, e⟩, -⟩ := hS; exact ln_of e 87
theorem K_88 {h : MH} (hS : St h) : kd h 88 = 20 := by obtain ⟨⟨L, ext, e⟩, -⟩ := hS; exact kd_of e 88
theorem N_88 {h : MH} (hS : St h) : ln h 88 = 12 := by obtain ⟨⟨L, ext, e⟩, -⟩ := hS; exact ln_of e 88
theorem K_89 {h : MH} (hS : St h) : kd h 89 = 20 := by obtain ⟨⟨L, ext, e⟩, -⟩ := hS; exact kd_of e 89
theorem N_89 {h : MH} (hS : St h) : ln h 89 = 12 := by obtain ⟨⟨L, ext, e⟩, -⟩ := hS; exact ln_of e 89
theorem K_90 {h : MH} (hS : St h) : kd h 90 = 20 := by obtain ⟨⟨L, ext, e⟩, -⟩ := hS; exact kd_of e 90
theorem N_90 {h : MH} (hS : St h) : ln h 90 = 12 := by obtain ⟨⟨L, ext, e⟩, -⟩ := hS; exact ln_of e 90
theorem K_91 {h : MH} (hS : St h) : kd h 91 = 20 := by obtain ⟨⟨L, ext, e⟩, -⟩ := hS; exact kd_of e 91
theorem N_91 {h : MH} (hS : St h) : ln h 91 = 3 := by obtain ⟨⟨L, ext, e⟩, -⟩ := hS; exact ln_of e 91
theorem K_92 {h : MH} (hS : St h) : kd h 92 = 20 := by obtain ⟨⟨L, ext, e⟩, -⟩ := hS; exact kd_of e 92
theorem N_92 {h : MH} (hS : St h) : ln h 92 = 256 := by obtain ⟨⟨L, ext, e⟩, -⟩ := hS; exact ln_of e 92
theorem K_93 {h : MH} (hS : St h) : kd h 93 = 20 := by obtain ⟨⟨L, ext, e⟩, -⟩ := hS; exact kd_of e 93
theorem N_93 {h : MH} (hS : St h) : ln h 93 = 12 := by obtain ⟨⟨L, ext, e⟩, -⟩ := hS; exact ln_of e 93
theorem K_94 {h : MH} (hS : St h) : kd h 94 = 20 := by obtain ⟨⟨L, ext, e⟩, -⟩ := hS; exact kd_of e 94
theorem N_94 {h : MH} (hS : St h) : ln h 94 = 32 := by obtain ⟨⟨L, ext, e⟩, -⟩ := hS; exact ln_of e 94
theorem K_95 {h : MH} (hS : St h) : kd h 95 = 20 := by obtain ⟨⟨L, ext, e⟩, -⟩ := hS; exact kd_of e 95
theorem N_95 {h : MH} (hS : St h) : ln h 95 = 1280 := by obtain ⟨⟨L, ext, e⟩, -⟩ := hS; exact ln_of e 95
theorem K_96 {h : MH} (hS : St h) : kd h 96 = 20 := by obtain ⟨⟨L, ext, e⟩, -⟩ := hS; exact kd_of e 96
theorem N_96 {h : MH} (hS : St h) : ln h 96 = 4096 := by obtain ⟨⟨L, ext, e⟩, -⟩ := hS; exact ln_of e 96
theorem K_97 {h : MH} (hS : St h) : kd h 97 = 20 := by obtain ⟨⟨L, ext, e⟩, -⟩ := hS; exact kd_of e 97
theorem N_97 {h : MH} (hS : St h) : ln h 97 = 20 := by obtain ⟨⟨L, ext, e⟩, -⟩ := hS; exact ln_of e 97
theorem K_98 {h : MH} (hS : St h) : kd h 98 = 20 := by obtain ⟨⟨L, ext, e⟩, -⟩ := hS; exact kd_of e 98
theorem N_98 {h : MH} (hS : St h) : ln h 98 = 20 := by obtain ⟨⟨L, ext, e⟩, -⟩ := hS; exact ln_of e 98
theorem K_99 {h : MH} (hS : St h) : kd h 99 = 20 := by obtain ⟨⟨L, ext, e⟩, -⟩ := hS; exact kd_of e 99
theorem N_99 {h : MH} (hS : St h) : ln h 99 = 4096 := by obtain ⟨⟨L, ext, e⟩, -⟩ := hS; exact ln_of e 99
theorem K_100 {h : MH} (hS : St h) : kd h 100 = 20 := by obtain ⟨⟨L, ext, e⟩, -⟩ := hS; exact kd_of e 100
theorem N_100 {h : MH} (hS : St h) : ln h 100 = 4096 := by obtain ⟨⟨L, ext, e⟩, -⟩ := hS; exact ln_of e 100
theorem K_101 {h : MH} (hS : St h) : kd h 101 = 20 := by obtain ⟨⟨L, ext, e⟩, -⟩ := hS; exact kd_of e 101
theorem N_101 {h : MH} (hS : St h) : ln h 101 = 4096 := by obtain ⟨⟨L, ext, e⟩, -⟩ := hS; exact ln_of e 101
theorem K_102 {h : MH} (hS : St h) : kd h 102 = 24 := by obtain ⟨⟨L, ext, e⟩, -⟩ := hS; exact kd_of e 102
theorem N_102 {h : MH} (hS : St h) : ln h 102 = 4096 := by obtain ⟨⟨L, ext, e⟩, -⟩ := hS; exact ln_of e 102
theorem K_103 {h : MH} (hS : St h) : kd h 103 = 20 := by obtain ⟨⟨L, ext, e⟩, -⟩ := hS; exact kd_of e 103
theorem N_103 {h : MH} (hS : St h) : ln h 103 = 30 := by obtain ⟨⟨L, ext, e⟩, -⟩ := hS; exact ln_of e 103
theorem K_104 {h : MH} (hS : St h) : kd h 104 = 20 := by obtain ⟨⟨L, ext, e⟩, -⟩ := hS; exact kd_of e 104
theorem N_104 {h : MH} (hS : St h) : ln h 104 = 30 := by obtain ⟨⟨L, ext, e⟩, -⟩ := hS; exact ln_of e 104
theorem K_105 {h : MH} (hS : St h) : kd h 105 = 20 := by obtain ⟨⟨L, ext, e⟩, -⟩ := hS; exact kd_of e 105
theorem N_105 {h : MH} (hS : St h) : ln h 105 = 30 := by obtain ⟨⟨L, ext, e⟩, -⟩ := hS; exact ln_of e 105
theorem K_106 {h : MH} (hS : St h) : kd h 106 = 20 := by obtain ⟨⟨L, ext, e⟩, -⟩ := hS; exact kd_of e 106
theorem N_106 {h : MH} (hS : St h) : ln h 106 = 30 := by obtain ⟨⟨L, ext, e⟩, -⟩ := hS; exact ln_of e 106
theorem K_107 {h : MH} (hS : St h) : kd h 107 = 20 := by obtain ⟨⟨L, ext, e⟩, -⟩ := hS; exact kd_of e 107
theorem N_107 {h : MH} (hS : St h) : ln h 107 = 30 := by obtain ⟨⟨L, ext, e⟩, -⟩ := hS; exact ln_of e 107
theorem K_108 {h : MH} (hS : St h) : kd h 108 = 20 := by obtain ⟨⟨L, ext, e⟩, -⟩ := hS; exact kd_of e 108
theorem N_108 {h : MH} (hS : St h) : ln h 108 = 4096 := by obtain ⟨⟨L, ext, e⟩, -⟩ := hS; exact ln_of e 108
theorem K_109 {h : MH} (hS : St h) : kd h 109 = 20 := by obtain ⟨⟨L, ext, e⟩, -⟩ := hS; exact kd_of e 109
theorem N_109 {h : MH} (hS : St h) : ln h 109 = 102 := by obtain ⟨⟨L, ext, e⟩, -⟩ := hS; exact ln_of e 109
theorem K_110 {h : MH} (hS : St h) : kd h 110 = 24 := by obtain ⟨⟨L, ext, e⟩, -⟩ := hS; exact kd_of e 110
theorem N_110 {h : MH} (hS : St h) : ln h 110 = 3 := by obtain ⟨⟨L, ext, e⟩, -⟩ := hS; exact ln_of e 110
theorem K_111 {h : MH} (hS : St h) : kd h 111 = 20 := by obtain ⟨⟨L, ext, e⟩, -⟩ := hS; exact kd_of e 111
theorem N_111 {h : MH} (hS : St h) : ln h 111 = 96 := by obtain ⟨⟨L, ext, e⟩, -⟩ := hS; exact ln_of e 111
theorem F_2_0 {h : MH} (hS : St h) : gR h 2 0 = .ref 43 := hS.2 (2, 0, 43) (List.mem_of_getElem? (i := 0) rfl)
theorem F_2_1 {h : MH} (hS : St h) : gR h 2 1 = .ref 45 := hS.2 (2, 1, 45) (List.mem_of_getElem? (i := 1) rfl)
theorem F_2_2 {h : MH} (hS : St h) : gR h 2 2 = .ref 46 := hS.2 (2, 2, 46) (List.mem_of_getElem? (i := 2) rfl)
theorem F_2_3 {h : MH} (hS : St h) : gR h 2 3 = .ref 53 := hS.2 (2, 3, 53) (List.mem_of_getElem? (i := 3) rfl)
theorem F_2_4 {h : MH} (hS : St h) : gR h 2 4 = .ref 55 := hS.2 (2, 4, 55) (List.mem_of_getElem? (i := 4) rfl)
theorem F_2_5 {h : MH} (hS : St h) : gR h 2 5 = .ref 58 := hS.2 (2, 5, 58) (List.mem_of_getElem? (i := 5) rfl)
theorem F_2_6 {h : MH} (hS : St h) : gR h 2 6 = .ref 64 := hS.2 (2, 6, 64) (List.mem_of_getElem? (i := 6) rfl)
theorem F_3_0 {h : MH} (hS : St h) : gR h 3 0 = .ref 4 := hS.2 (3, 0, 4) (List.mem_of_getElem? (i := 7) rfl)
theorem F_3_1 {h : MH} (hS : St h) : gR h 3 1 = .ref 6 := hS.2 (3, 1, 6) (List.mem_of_getElem? (i := 8) rfl)
theorem F_3_2 {h : MH} (hS : St h) : gR h 3 2 = .ref 7 := hS.2 (3, 2, 7) (List.mem_of_getElem? (i := 9) rfl)
theorem F_3_3 {h : MH} (hS : St h) : gR h 3 3 = .ref 9 := hS.2 (3, 3, 9) (List.mem_of_getElem? (i := 10) rfl)
theorem F_3_4 {h : MH} (hS : St h) : gR h 3 4 = .ref 10 := hS.2 (3, 4, 10) (List.mem_of_getElem? (i := 11) rfl)
theorem F_3_5 {h : MH} (hS : St h) : gR h 3 5 = .ref 11 := hS.2 (3, 5, 11) (List.mem_of_getElem? (i := 12) rfl)
theorem F_3_6 {h : MH} (hS : St h) : gR h 3 6 = .ref 13 := hS.2 (3, 6, 13) (List.mem_of_getElem? (i := 13) rfl)
theorem F_3_7 {h : MH} (hS : St h) : gR h 3 7 = .ref 14 := hS.2 (3, 7, 14) (List.mem_of_getElem? (i := 14) rfl)
theorem F_3_8 {h : MH} (hS : St h) : gR h 3 8 = .ref 15 := hS.2 (3, 8, 15) (List.mem_of_getElem? (i := 15) rfl)
theorem F_3_9 {h : MH} (hS : St h) : gR h 3 9 = .ref 16 := hS.2 (3, 9, 16) (List.mem_of_getElem? (i := 16) rfl)
theorem F_3_10 {h : MH} (hS : St h) : gR h 3 10 = .ref 17 := hS.2 (3, 10, 17) (List.mem_of_getElem? (i := 17) rfl)
theorem F_3_11 {h : MH} (hS : St h) : gR h 3 11 = .ref 18 := hS.2 (3, 11, 18) (List.mem_of_getElem? (i := 18) rfl)
theorem F_4_0 {h : MH} (hS : St h) : gR h 4 0 = .ref 5 := hS.2 (4, 0, 5) (List.mem_of_getElem? (i := 19) rfl)
theorem F_7_0 {h : MH} (hS : St h) : gR h 7 0 = .ref 8 := hS.2 (7, 0, 8) (List.mem_of_getElem? (i := 20) rfl)
theorem F_11_0 {h : MH} (hS : St h) : gR h 11 0 = .ref 12 := hS.2 (11, 0, 12) (List.mem_of_getElem? (i := 21) rfl)
theorem F_18_0 {h : MH} (hS : St h) : gR h 18 0 = .ref 19 := hS.2 (18, 0, 19) (List.mem_of_getElem? (i := 22) rfl)
theorem F_18_2 {h : MH} (hS : St h) : gR h 18 2 = .ref 20 := hS.2 (18, 2, 20) (List.mem_of_getElem? (i := 23) rfl)
theorem F_18_3 {h : MH} (hS : St h) : gR h 18 3 = .ref 21 := hS.2 (18, 3, 21) (List.mem_of_getElem? (i := 24) rfl)
theorem F_18_4 {h : MH} (hS : St h) : gR h 18 4 = .ref 22 := hS.2 (18, 4, 22) (List.mem_of_getElem? (i := 25) rfl)
theorem F_23_0 {h : MH} (hS : St h) : gR h 23 0 = .ref 24 := hS.2 (23, 0, 24) (List.mem_of_getElem? (i := 26) rfl)
theorem F_23_1 {h : MH} (hS : St h) : gR h 23 1 = .ref 26 := hS.2 (23, 1, 26) (List.mem_of_getElem? (i := 27) rfl)
theorem F_23_2 {h : MH} (hS : St h) : gR h 23 2 = .ref 27 := hS.2 (23, 2, 27) (List.mem_of_getElem? (i := 28) rfl)
theorem F_23_3 {h : MH} (hS : St h) : gR h 23 3 = .ref 29 := hS.2 (23, 3, 29) (List.mem_of_getElem? (i := 29) rfl)
theorem F_23_4 {h : MH} (hS : St h) : gR h 23 4 = .ref 30 := hS.2 (23, 4, 30) (List.mem_of_getElem? (i := 30) rfl)
theorem F_23_5 {h : MH} (hS : St h) : gR h 23 5 = .ref 31 := hS.2 (23, 5, 31) (List.mem_of_getElem? (i := 31) rfl)
theorem F_23_6 {h : MH} (hS : St h) : gR h 23 6 = .ref 33 := hS.2 (23, 6, 33) (List.mem_of_getElem? (i := 32) rfl)
theorem F_23_7 {h : MH} (hS : St h) : gR h 23 7 = .ref 34 := hS.2 (23, 7, 34) (List.mem_of_getElem? (i := 33) rfl)
theorem F_23_8 {h : MH} (hS : St h) : gR h 23 8 = .ref 35 := hS.2 (23, 8, 35) (List.mem_of_getElem? (i := 34) rfl)
theorem F_23_9 {h : MH} (hS : St h) : gR h 23 9 = .ref 36 := hS.2 (23, 9, 36) (List.mem_of_getElem? (i := 35) rfl)
theorem F_23_10 {h : MH} (hS : St h) : gR h 23 10 = .ref 37 := hS.2 (23, 10, 37) (List.mem_of_getElem? (i := 36) rfl)
theorem F_23_11 {h : MH} (hS : St h) : gR h 23 11 = .ref 38 := hS.2 (23, 11, 38) (List.mem_of_getElem? (i := 37) rfl)
theorem F_24_0 {h : MH} (hS : St h) : gR h 24 0 = .ref 25 := hS.2 (24, 0, 25) (List.mem_of_getElem? (i := 38) rfl)
theorem F_27_0 {h : MH} (hS : St h) : gR h 27 0 = .ref 28 := hS.2 (27, 0, 28) (List.mem_of_getElem? (i := 39) rfl)
theorem F_31_0 {h : MH} (hS : St h) : gR h 31 0 = .ref 32 := hS.2 (31, 0, 32) (List.mem_of_getElem? (i := 40) rfl)
theorem F_38_0 {h : MH} (hS : St h) : gR h 38 0 = .ref 39 := hS.2 (38, 0, 39) (List.mem_of_getElem? (i := 41) rfl)
theorem F_38_2 {h : MH} (hS : St h) : gR h 38 2 = .ref 40 := hS.2 (38, 2, 40) (List.mem_of_getElem? (i := 42) rfl)
theorem F_38_3 {h : MH} (hS : St h) : gR h 38 3 = .ref 41 := hS.2 (38, 3, 41) (List.mem_of_getElem? (i := 43) rfl)
theorem F_38_4 {h : MH} (hS : St h) : gR h 38 4 = .ref 42 := hS.2 (38, 4, 42) (List.mem_of_getElem? (i := 44) rfl)
theorem F_43_0 {h : MH} (hS : St h) : gR h 43 0 = .ref 44 := hS.2 (43, 0, 44) (List.mem_of_getElem? (i := 45) rfl)
theorem F_45_0 {h : MH} (hS : St h) : gR h 45 0 = .ref 43 := hS.2 (45, 0, 43) (List.mem_of_getElem? (i := 46) rfl)
theorem F_46_2 {h : MH} (hS : St h) : gR h 46 2 = .ref 47 := hS.2 (46, 2, 47) (List.mem_of_getElem? (i := 47) rfl)
theorem F_46_3 {h : MH} (hS : St h) : gR h 46 3 = .ref 48 := hS.2 (46, 3, 48) (List.mem_of_getElem? (i := 48) rfl)
theorem F_46_4 {h : MH} (hS : St h) : gR h 46 4 = .ref 49 := hS.2 (46, 4, 49) (List.mem_of_getElem? (i := 49) rfl)
theorem F_46_5 {h : MH} (hS : St h) : gR h 46 5 = .ref 50 := hS.2 (46, 5, 50) (List.mem_of_getElem? (i := 50) rfl)
theorem F_46_6 {h : MH} (hS : St h) : gR h 46 6 = .ref 51 := hS.2 (46, 6, 51) (List.mem_of_getElem? (i := 51) rfl)
theorem F_46_7 {h : MH} (hS : St h) : gR h 46 7 = .ref 52 := hS.2 (46, 7, 52) (List.mem_of_getElem? (i := 52) rfl)
theorem F_53_1 {h : MH} (hS : St h) : gR h 53 1 = .ref 54 := hS.2 (53, 1, 54) (List.mem_of_getElem? (i := 53) rfl)
theorem F_55_0 {h : MH} (hS : St h) : gR h 55 0 = .ref 56 := hS.2 (55, 0, 56) (List.mem_of_getElem? (i := 54) rfl)
theorem F_55_1 {h : MH} (hS : St h) : gR h 55 1 = .ref 57 := hS.2 (55, 1, 57) (List.mem_of_getElem? (i := 55) rfl)
theorem F_58_0 {h : MH} (hS : St h) : gR h 58 0 = .ref 59 := hS.2 (58, 0, 59) (List.mem_of_getElem? (i := 56) rfl)
theorem F_58_1 {h : MH} (hS : St h) : gR h 58 1 = .ref 60 := hS.2 (58, 1, 60) (List.mem_of_getElem? (i := 57) rfl)
theorem F_58_2 {h : MH} (hS : St h) : gR h 58 2 = .ref 61 := hS.2 (58, 2, 61) (List.mem_of_getElem? (i := 58) rfl)
theorem F_58_3 {h : MH} (hS : St h) : gR h 58 3 = .ref 62 := hS.2 (58, 3, 62) (List.mem_of_getElem? (i := 59) rfl)
theorem F_58_4 {h : MH} (hS : St h) : gR h 58 4 = .ref 63 := hS.2 (58, 4, 63) (List.mem_of_getElem? (i := 60) rfl)
theorem F_66_0 {h : MH} (hS : St h) : gR h 66 0 = .ref 67 := hS.2 (66, 0, 67) (List.mem_of_getElem? (i := 61) rfl)
theorem F_66_10 {h : MH} (hS : St h) : gR h 66 10 = .ref 68 := hS.2 (66, 10, 68) (List.mem_of_getElem? (i := 62) rfl)
theorem F_66_11 {h : MH} (hS : St h) : gR h 66 11 = .ref 69 := hS.2 (66, 11, 69) (List.mem_of_getElem? (i := 63) rfl)
theorem F_66_12 {h : MH} (hS : St h) : gR h 66 12 = .ref 70 := hS.2 (66, 12, 70) (List.mem_of_getElem? (i := 64) rfl)
theorem F_66_13 {h : MH} (hS : St h) : gR h 66 13 = .ref 71 := hS.2 (66, 13, 71) (List.mem_of_getElem? (i := 65) rfl)
theorem F_66_14 {h : MH} (hS : St h) : gR h 66 14 = .ref 72 := hS.2 (66, 14, 72) (List.mem_of_getElem? (i := 66) rfl)
theorem F_66_15 {h : MH} (hS : St h) : gR h 66 15 = .ref 73 := hS.2 (66, 15, 73) (List.mem_of_getElem? (i := 67) rfl)
theorem F_66_16 {h : MH} (hS : St h) : gR h 66 16 = .ref 74 := hS.2 (66, 16, 74) (List.mem_of_getElem? (i := 68) rfl)
theorem F_66_17 {h : MH} (hS : St h) : gR h 66 17 = .ref 75 := hS.2 (66, 17, 75) (List.mem_of_getElem? (i := 69) rfl)
theorem F_66_18 {h : MH} (hS : St h) : gR h 66 18 = .ref 76 := hS.2 (66, 18, 76) (List.mem_of_getElem? (i := 70) rfl)
theorem F_66_25 {h : MH} (hS : St h) : gR h 66 25 = .ref 77 := hS.2 (66, 25, 77) (List.mem_of_getElem? (i := 71) rfl)
theorem F_66_26 {h : MH} (hS : St h) : gR h 66 26 = .ref 78 := hS.2 (66, 26, 78) (List.mem_of_getElem? (i := 72) rfl)
theorem F_66_27 {h : MH} (hS : St h) : gR h 66 27 = .ref 79 := hS.2 (66, 27, 79) (List.mem_of_getElem? (i := 73) rfl)
theorem F_66_28 {h : MH} (hS : St h) : gR h 66 28 = .ref 80 := hS.2 (66, 28, 80) (List.mem_of_getElem? (i := 74) rfl)
theorem F_66_29 {h : MH} (hS : St h) : gR h 66 29 = .ref 81 := hS.2 (66, 29, 81) (List.mem_of_getElem? (i := 75) rfl)
theorem F_66_30 {h : MH} (hS : St h) : gR h 66 30 = .ref 82 := hS.2 (66, 30, 82) (List.mem_of_getElem? (i := 76) rfl)
theorem F_66_31 {h : MH} (hS : St h) : gR h 66 31 = .ref 83 := hS.2 (66, 31, 83) (List.mem_of_getElem? (i := 77) rfl)
theorem F_66_32 {h : MH} (hS : St h) : gR h 66 32 = .ref 84 := hS.2 (66, 32, 84) (List.mem_of_getElem? (i := 78) rfl)
theorem F_66_33 {h : MH} (hS : St h) : gR h 66 33 = .ref 85 := hS.2 (66, 33, 85) (List.mem_of_getElem? (i := 79) rfl)
theorem F_66_34 {h : MH} (hS : St h) : gR h 66 34 = .ref 86 := hS.2 (66, 34, 86) (List.mem_of_getElem? (i := 80) rfl)
theorem F_66_35 {h : MH} (hS : St h) : gR h 66 35 = .ref 87 := hS.2 (66, 35, 87) (List.mem_of_getElem? (i := 81) rfl)
theorem F_66_36 {h : MH} (hS : St h) : gR h 66 36 = .ref 88 := hS.2 (66, 36, 88) (List.mem_of_getElem? (i := 82) rfl)
theorem F_66_37 {h : MH} (hS : St h) : gR h 66 37 = .ref 89 := hS.2 (66, 37, 89) (List.mem_of_getElem? (i := 83) rfl)
theorem F_66_38 {h : MH} (hS : St h) : gR h 66 38 = .ref 90 := hS.2 (66, 38, 90) (List.mem_of_getElem? (i := 84) rfl)
theorem F_66_39 {h : MH} (hS : St h) : gR h 66 39 = .ref 91 := hS.2 (66, 39, 91) (List.mem_of_getElem? (i := 85) rfl)
theorem F_66_60 {h : MH} (hS : St h) : gR h 66 60 = .ref 92 := hS.2 (66, 60, 92) (List.mem_of_getElem? (i := 86) rfl)
theorem F_66_61 {h : MH} (hS : St h) : gR h 66 61 = .ref 93 := hS.2 (66, 61, 93) (List.mem_of_getElem? (i := 87) rfl)
theorem F_66_62 {h : MH} (hS : St h) : gR h 66 62 = .ref 94 := hS.2 (66, 62, 94) (List.mem_of_getElem? (i := 88) rfl)
theorem F_66_63 {h : MH} (hS : St h) : gR h 66 63 = .ref 95 := hS.2 (66, 63, 95) (List.mem_of_getElem? (i := 89) rfl)
theorem F_66_66 {h : MH} (hS : St h) : gR h 66 66 = .ref 96 := hS.2 (66, 66, 96) (List.mem_of_getElem? (i := 90) rfl)
theorem F_66_68 {h : MH} (hS : St h) : gR h 66 68 = .ref 97 := hS.2 (66, 68, 97) (List.mem_of_getElem? (i := 91) rfl)
theorem F_66_69 {h : MH} (hS : St h) : gR h 66 69 = .ref 98 := hS.2 (66, 69, 98) (List.mem_of_getElem? (i := 92) rfl)
theorem F_66_71 {h : MH} (hS : St h) : gR h 66 71 = .ref 99 := hS.2 (66, 71, 99) (List.mem_of_getElem? (i := 93) rfl)
theorem F_66_72 {h : MH} (hS : St h) : gR h 66 72 = .ref 100 := hS.2 (66, 72, 100) (List.mem_of_getElem? (i := 94) rfl)
theorem F_66_73 {h : MH} (hS : St h) : gR h 66 73 = .ref 101 := hS.2 (66, 73, 101) (List.mem_of_getElem? (i := 95) rfl)
theorem F_66_74 {h : MH} (hS : St h) : gR h 66 74 = .ref 102 := hS.2 (66, 74, 102) (List.mem_of_getElem? (i := 96) rfl)
theorem F_66_77 {h : MH} (hS : St h) : gR h 66 77 = .ref 103 := hS.2 (66, 77, 103) (List.mem_of_getElem? (i := 97) rfl)
theorem F_66_78 {h : MH} (hS : St h) : gR h 66 78 = .ref 104 := hS.2 (66, 78, 104) (List.mem_of_getElem? (i := 98) rfl)
theorem F_66_79 {h : MH} (hS : St h) : gR h 66 79 = .ref 105 := hS.2 (66, 79, 105) (List.mem_of_getElem? (i := 99) rfl)
theorem F_66_80 {h : MH} (hS : St h) : gR h 66 80 = .ref 106 := hS.2 (66, 80, 106) (List.mem_of_getElem? (i := 100) rfl)
theorem F_66_81 {h : MH} (hS : St h) : gR h 66 81 = .ref 107 := hS.2 (66, 81, 107) (List.mem_of_getElem? (i := 101) rfl)
theorem F_66_84 {h : MH} (hS : St h) : gR h 66 84 = .ref 108 := hS.2 (66, 84, 108) (List.mem_of_getElem? (i := 102) rfl)
theorem F_66_85 {h : MH} (hS : St h) : gR h 66 85 = .ref 109 := hS.2 (66, 85, 109) (List.mem_of_getElem? (i := 103) rfl)
theorem F_66_86 {h : MH} (hS : St h) : gR h 66 86 = .ref 110 := hS.2 (66, 86, 110) (List.mem_of_getElem? (i := 104) rfl)
theorem F_66_87 {h : MH} (hS : St h) : gR h 66 87 = .ref 111 := hS.2 (66, 87, 111) (List.mem_of_getElem? (i := 105) rfl)
def Oo (o : Nat) : Prop := o = 3 ∨ o = 23
theorem KO_0 {h : MH} {o : Nat} (hS : St h) (ho : Oo o) : kd h (o) = 5 := by
  rcases ho with rfl | rfl
  · exact K_3 hS
  · exact K_23 hS
theorem KO_1 {h : MH} {o : Nat} (hS : St h) (ho : Oo o) : kd h (o + 1) = 4 := by
  rcases ho with rfl | rfl
  · exact K_4 hS
  · exact K_24 hS
theorem KO_2 {h : MH} {o : Nat} (hS : St h) (ho : Oo o) : kd h (o + 2) = 21 := by
  rcases ho with rfl | rfl
  · exact K_5 hS
  · exact K_25 hS
theorem NO_2 {h : MH} {o : Nat} (hS : St h) (ho : Oo o) : ln h (o + 2) = 4 := by
  rcases ho with rfl | rfl
  · exact N_5 hS
  · exact N_25 hS
theorem KO_3 {h : MH} {o : Nat} (hS : St h) (ho : Oo o) : kd h (o + 3) = 20 := by
  rcases ho with rfl | rfl
  · exact K_6 hS
  · exact K_26 hS
theorem NO_3 {h : MH} {o : Nat} (hS : St h) (ho : Oo o) : ln h (o + 3) = 4 := by
  rcases ho with rfl | rfl
  · exact N_6 hS
  · exact N_26 hS
theorem KO_4 {h : MH} {o : Nat} (hS : St h) (ho : Oo o) : kd h (o + 4) = 4 := by
  rcases ho with rfl | rfl
  · exact K_7 hS
  · exact K_27 hS
theorem KO_5 {h : MH} {o : Nat} (hS : St h) (ho : Oo o) : kd h (o + 5) = 21 := by
  rcases ho with rfl | rfl
  · exact K_8 hS
  · exact K_28 hS
theorem NO_5 {h : MH} {o : Nat} (hS : St h) (ho : Oo o) : ln h (o + 5) = 3 := by
  rcases ho with rfl | rfl
  · exact N_8 hS
  · exact N_28 hS
theorem KO_6 {h : MH} {o : Nat} (hS : St h) (ho : Oo o) : kd h (o + 6) = 20 := by
  rcases ho with rfl | rfl
  · exact K_9 hS
  · exact K_29 hS
theorem NO_6 {h : MH} {o : Nat} (hS : St h) (ho : Oo o) : ln h (o + 6) = 3 := by
  rcases ho with rfl | rfl
  · exact N_9 hS
  · exact N_29 hS
theorem KO_7 {h : MH} {o : Nat} (hS : St h) (ho : Oo o) : kd h (o + 7) = 20 := by
  rcases ho with rfl | rfl
  · exact K_10 hS
  · exact K_30 hS
theorem NO_7 {h : MH} {o : Nat} (hS : St h) (ho : Oo o) : ln h (o + 7) = 3 := by
  rcases ho with rfl | rfl
  · exact N_10 hS
  · exact N_30 hS
theorem KO_8 {h : MH} {o : Nat} (hS : St h) (ho : Oo o) : kd h (o + 8) = 4 := by
  rcases ho with rfl | rfl
  · exact K_11 hS
  · exact K_31 hS
theorem KO_9 {h : MH} {o : Nat} (hS : St h) (ho : Oo o) : kd h (o + 9) = 21 := by
  rcases ho with rfl | rfl
  · exact K_12 hS
  · exact K_32 hS
theorem NO_9 {h : MH} {o : Nat} (hS : St h) (ho : Oo o) : ln h (o + 9) = 12 := by
  rcases ho with rfl | rfl
  · exact N_12 hS
  · exact N_32 hS
theorem KO_10 {h : MH} {o : Nat} (hS : St h) (ho : Oo o) : kd h (o + 10) = 20 := by
  rcases ho with rfl | rfl
  · exact K_13 hS
  · exact K_33 hS
theorem NO_10 {h : MH} {o : Nat} (hS : St h) (ho : Oo o) : ln h (o + 10) = 12 := by
  rcases ho with rfl | rfl
  · exact N_13 hS
  · exact N_33 hS
theorem KO_11 {h : MH} {o : Nat} (hS : St h) (ho : Oo o) : kd h (o + 11) = 20 := by
  rcases ho with rfl | rfl
  · exact K_14 hS
  · exact K_34 hS
theorem NO_11 {h : MH} {o : Nat} (hS : St h) (ho : Oo o) : ln h (o + 11) = 12 := by
  rcases ho with rfl | rfl
  · exact N_14 hS
  · exact N_34 hS
theorem KO_12 {h : MH} {o : Nat} (hS : St h) (ho : Oo o) : kd h (o + 12) = 20 := by
  rcases ho with rfl | rfl
  · exact K_15 hS
  · exact K_35 hS
theorem NO_12 {h : MH} {o : Nat} (hS : St h) (ho : Oo o) : ln h (o + 12) = 12 := by
  rcases ho with rfl | rfl
  · exact N_15 hS
  · exact N_35 hS
theorem KO_13 {h : MH} {o : Nat} (hS : St h) (ho : Oo o) : kd h (o + 13) = 20 := by
  rcases ho with rfl | rfl
  · exact K_16 hS
  · exact K_36 hS
theorem NO_13 {h : MH} {o : Nat} (hS : St h) (ho : Oo o) : ln h (o + 13) = 12 := by
  rcases ho with rfl | rfl
  · exact N_16 hS
  · exact N_36 hS
theorem KO_14 {h : MH} {o : Nat} (hS : St h) (ho : Oo o) : kd h (o + 14) = 20 := by
  rcases ho with rfl | rfl
  · exact K_17 hS
  · exact K_37 hS
theorem NO_14 {h : MH} {o : Nat} (hS : St h) (ho : Oo o) : ln h (o + 14) = 12 := by
  rcases ho with rfl | rfl
  · exact N_17 hS
  · exact N_37 hS
theorem KO_15 {h : MH} {o : Nat} (hS : St h) (ho : Oo o) : kd h (o + 15) = 1 := by
  rcases ho with rfl | rfl
  · exact K_18 hS
  · exact K_38 hS
theorem KO_16 {h : MH} {o : Nat} (hS : St h) (ho : Oo o) : kd h (o + 16) = 22 := by
  rcases ho with rfl | rfl
  · exact K_19 hS
  · exact K_39 hS
theorem NO_16 {h : MH} {o : Nat} (hS : St h) (ho : Oo o) : ln h (o + 16) = 640 := by
  rcases ho with rfl | rfl
  · exact N_19 hS
  · exact N_39 hS
theorem KO_17 {h : MH} {o : Nat} (hS : St h) (ho : Oo o) : kd h (o + 17) = 20 := by
  rcases ho with rfl | rfl
  · exact K_20 hS
  · exact K_40 hS
theorem NO_17 {h : MH} {o : Nat} (hS : St h) (ho : Oo o) : ln h (o + 17) = 13 := by
  rcases ho with rfl | rfl
  · exact N_20 hS
  · exact N_40 hS
theorem KO_18 {h : MH} {o : Nat} (hS : St h) (ho : Oo o) : kd h (o + 18) = 20 := by
  rcases ho with rfl | rfl
  · exact K_21 hS
  · exact K_41 hS
theorem NO_18 {h : MH} {o : Nat} (hS : St h) (ho : Oo o) : ln h (o + 18) = 13 := by
  rcases ho with rfl | rfl
  · exact N_21 hS
  · exact N_41 hS
theorem KO_19 {h : MH} {o : Nat} (hS : St h) (ho : Oo o) : kd h (o + 19) = 20 := by
  rcases ho with rfl | rfl
  · exact K_22 hS
  · exact K_42 hS
theorem NO_19 {h : MH} {o : Nat} (hS : St h) (ho : Oo o) : ln h (o + 19) = 32 := by
  rcases ho with rfl | rfl
  · exact N_22 hS
  · exact N_42 hS
theorem FO_0_0 {h : MH} {o : Nat} (hS : St h) (ho : Oo o) : gR h (o) 0 = .ref (o + 1) := by
  rcases ho with rfl | rfl
  · exact F_3_0 hS
  · exact F_23_0 hS
theorem FO_0_1 {h : MH} {o : Nat} (hS : St h) (ho : Oo o) : gR h (o) 1 = .ref (o + 3) := by
  rcases ho with rfl | rfl
  · exact F_3_1 hS
  · exact F_23_1 hS
theorem FO_0_2 {h : MH} {o : Nat} (hS : St h) (ho : Oo o) : gR h (o) 2 = .ref (o + 4) := by
  rcases ho with rfl | rfl
  · exact F_3_2 hS
  · exact F_23_2 hS
theorem FO_0_3 {h : MH} {o : Nat} (hS : St h) (ho : Oo o) : gR h (o) 3 = .ref (o + 6) := by
  rcases ho with rfl | rfl
  · exact F_3_3 hS
  · exact F_23_3 hS
theorem FO_0_4 {h : MH} {o : Nat} (hS : St h) (ho : Oo o) : gR h (o) 4 = .ref (o + 7) := by
  rcases ho with rfl | rfl
  · exact F_3_4 hS
  · exact F_23_4 hS
theorem FO_0_5 {h : MH} {o : Nat} (hS : St h) (ho : Oo o) : gR h (o) 5 = .ref (o + 8) := by
  rcases ho with rfl | rfl
  · exact F_3_5 hS
  · exact F_23_5 hS
theorem FO_0_6 {h : MH} {o : Nat} (hS : St h) (ho : Oo o) : gR h (o) 6 = .ref (o + 10) := by
  rcases ho with rfl | rfl
  · exact F_3_6 hS
  · exact F_23_6 hS
theorem FO_0_7 {h : MH} {o : Nat} (hS : St h) (ho : Oo o) : gR h (o) 7 = .ref (o + 11) := by
  rcases ho with rfl | rfl
  · exact F_3_7 hS
  · exact F_23_7 hS
theorem FO_0_8 {h : MH} {o : Nat} (hS : St h) (ho : Oo o) : gR h (o) 8 = .ref (o + 12) := by
  rcases ho with rfl | rfl
  · exact F_3_8 hS
  · exact F_23_8 hS
theorem FO_0_9 {h : MH} {o : Nat} (hS : St h) (ho : Oo o) : gR h (o) 9 = .ref (o + 13) := by
  rcases ho with rfl | rfl
  · exact F_3_9 hS
  · exact F_23_9 hS
theorem FO_0_10 {h : MH} {o : Nat} (hS : St h) (ho : Oo o) : gR h (o) 10 = .ref (o + 14) := by
  rcases ho with rfl | rfl
  · exact F_3_10 hS
  · exact F_23_10 hS
theorem FO_0_11 {h : MH} {o : Nat} (hS : St h) (ho : Oo o) : gR h (o) 11 = .ref (o + 15) := by
  rcases ho with rfl | rfl
  · exact F_3_11 hS
  · exact F_23_11 hS
theorem FO_1_0 {h : MH} {o : Nat} (hS : St h) (ho : Oo o) : gR h (o + 1) 0 = .ref (o + 2) := by
  rcases ho with rfl | rfl
  · exact F_4_0 hS
  · exact F_24_0 hS
theorem FO_4_0 {h : MH} {o : Nat} (hS : St h) (ho : Oo o) : gR h (o + 4) 0 = .ref (o + 5) := by
  rcases ho with rfl | rfl
  · exact F_7_0 hS
  · exact F_27_0 hS
theorem FO_8_0 {h : MH} {o : Nat} (hS : St h) (ho : Oo o) : gR h (o + 8) 0 = .ref (o + 9) := by
  rcases ho with rfl | rfl
  · exact F_11_0 hS
  · exact F_31_0 hS
theorem FO_15_0 {h : MH} {o : Nat} (hS : St h) (ho : Oo o) : gR h (o + 15) 0 = .ref (o + 16) := by
  rcases ho with rfl | rfl
  · exact F_18_0 hS
  · exact F_38_0 hS
theorem FO_15_2 {h : MH} {o : Nat} (hS : St h) (ho : Oo o) : gR h (o + 15) 2 = .ref (o + 17) := by
  rcases ho with rfl | rfl
  · exact F_18_2 hS
  · exact F_38_2 hS
theorem FO_15_3 {h : MH} {o : Nat} (hS : St h) (ho : Oo o) : gR h (o + 15) 3 = .ref (o + 18) := by
  rcases ho with rfl | rfl
  · exact F_18_3 hS
  · exact F_38_3 hS
theorem FO_15_4 {h : MH} {o : Nat} (hS : St h) (ho : Oo o) : gR h (o + 15) 4 = .ref (o + 19) := by
  rcases ho with rfl | rfl
  · exact F_18_4 hS
  · exact F_38_4 hS
theorem Oo_2 {o : Nat} (ho : Oo o) : 2 ≤ o := by rcases ho with rfl | rfl <;> decide
theorem Oo_p {o : Nat} (d : Nat) (ho : Oo o) : 2 ≤ o + d := by rcases ho with rfl | rfl <;> omega
theorem kd_sI (h : MH) (a k : Nat) (v : Int32) (x : Nat) : kd (sI h a k v) x = kd h x := rfl
theorem ln_sI (h : MH) (a k : Nat) (v : Int32) (x : Nat) : ln (sI h a k v) x = ln h x := rfl
theorem hl_sI (h : MH) (a k : Nat) (v : Int32) : (sI h a k v).1 = h.1 := rfl
theorem gL_sI (h : MH) (a k : Nat) (v : Int32) (x y : Nat) : gL (sI h a k v) x y = gL h x y := rfl
theorem gR_sI (h : MH) (a k : Nat) (v : Int32) (x y : Nat) : gR (sI h a k v) x y = gR h x y := rfl
theorem kd_sL (h : MH) (a k : Nat) (v : Int64) (x : Nat) : kd (sL h a k v) x = kd h x := rfl
theorem ln_sL (h : MH) (a k : Nat) (v : Int64) (x : Nat) : ln (sL h a k v) x = ln h x := rfl
theorem hl_sL (h : MH) (a k : Nat) (v : Int64) : (sL h a k v).1 = h.1 := rfl
theorem gI_sL (h : MH) (a k : Nat) (v : Int64) (x y : Nat) : gI (sL h a k v) x y = gI h x y := rfl
theorem gR_sL (h : MH) (a k : Nat) (v : Int64) (x y : Nat) : gR (sL h a k v) x y = gR h x y := rfl
theorem kd_sR (h : MH) (a k : Nat) (v : Value) (x : Nat) : kd (sR h a k v) x = kd h x := rfl
theorem ln_sR (h : MH) (a k : Nat) (v : Value) (x : Nat) : ln (sR h a k v) x = ln h x := rfl
theorem hl_sR (h : MH) (a k : Nat) (v : Value) : (sR h a k v).1 = h.1 := rfl
theorem gI_sR (h : MH) (a k : Nat) (v : Value) (x y : Nat) : gI (sR h a k v) x y = gI h x y := rfl
theorem gL_sR (h : MH) (a k : Nat) (v : Value) (x y : Nat) : gL (sR h a k v) x y = gL h x y := rfl
theorem kd_cpI (h : MH) (a sp b dp n : Nat) (x : Nat) : kd (cpI h a sp b dp n) x = kd h x := rfl
theorem ln_cpI (h : MH) (a sp b dp n : Nat) (x : Nat) : ln (cpI h a sp b dp n) x = ln h x := rfl
theorem hl_cpI (h : MH) (a sp b dp n : Nat) : (cpI h a sp b dp n).1 = h.1 := rfl
theorem gL_cpI (h : MH) (a sp b dp n : Nat) (x y : Nat) : gL (cpI h a sp b dp n) x y = gL h x y := rfl
theorem gR_cpI (h : MH) (a sp b dp n : Nat) (x y : Nat) : gR (cpI h a sp b dp n) x y = gR h x y := rfl
theorem gI_cpI (h : MH) (a sp b dp n : Nat) (x y : Nat) : gI (cpI h a sp b dp n) x y = if x = b then va_cpy (gI h a) (gI h b) sp dp n y else gI h x y := rfl
theorem St_sI (h : MH) (a k : Nat) (v : Int32) : St (sI h a k v) = St h := rfl
theorem St_sL (h : MH) (a k : Nat) (v : Int64) : St (sL h a k v) = St h := rfl
theorem St_cpI (h : MH) (a sp b dp n : Nat) : St (cpI h a sp b dp n) = St h := rfl
theorem St_sR {h : MH} {a k : Nat} {v : Value} (hS : St h) (hn : ∀ x, (a, k, x) ∉ RTB) : St (sR h a k v) := by
  refine ⟨hS.1, fun q hq => ?_⟩
  rw [gR_sR]
  by_cases e : q.1 = a ∧ q.2.1 = k
  · obtain ⟨q1, q2, q3⟩ := q
    obtain ⟨rfl, rfl⟩ := e
    exact absurd hq (hn q3)
  · rw [if_neg e]
    exact hS.2 q hq
