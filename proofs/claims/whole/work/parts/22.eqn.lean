/-! THE EQUATIONS OF A RUN, by program -/
section EQN
variable (k μ : Nat) (cs : List IR) (ls : LV) (st : List Value) (h : MH)
theorem e_bipush_m2 : rn k μ (.bipush (-2) :: cs) ls st h = rn k μ cs ls (.int (-2) :: st) h := by
  rw [rn_fix]; rfl
theorem e_bipush_m3 : rn k μ (.bipush (-3) :: cs) ls st h = rn k μ cs ls (.int (-3) :: st) h := by
  rw [rn_fix]; rfl
theorem e_bipush_10 : rn k μ (.bipush 10 :: cs) ls st h = rn k μ cs ls (.int 10 :: st) h := by
  rw [rn_fix]; rfl
theorem e_bipush_102 : rn k μ (.bipush 102 :: cs) ls st h = rn k μ cs ls (.int 102 :: st) h := by
  rw [rn_fix]; rfl
theorem e_bipush_12 : rn k μ (.bipush 12 :: cs) ls st h = rn k μ cs ls (.int 12 :: st) h := by
  rw [rn_fix]; rfl
theorem e_bipush_120 : rn k μ (.bipush 120 :: cs) ls st h = rn k μ cs ls (.int 120 :: st) h := by
  rw [rn_fix]; rfl
theorem e_bipush_122 : rn k μ (.bipush 122 :: cs) ls st h = rn k μ cs ls (.int 122 :: st) h := by
  rw [rn_fix]; rfl
theorem e_bipush_124 : rn k μ (.bipush 124 :: cs) ls st h = rn k μ cs ls (.int 124 :: st) h := by
  rw [rn_fix]; rfl
theorem e_bipush_13 : rn k μ (.bipush 13 :: cs) ls st h = rn k μ cs ls (.int 13 :: st) h := by
  rw [rn_fix]; rfl
theorem e_bipush_15 : rn k μ (.bipush 15 :: cs) ls st h = rn k μ cs ls (.int 15 :: st) h := by
  rw [rn_fix]; rfl
theorem e_bipush_16 : rn k μ (.bipush 16 :: cs) ls st h = rn k μ cs ls (.int 16 :: st) h := by
  rw [rn_fix]; rfl
theorem e_bipush_20 : rn k μ (.bipush 20 :: cs) ls st h = rn k μ cs ls (.int 20 :: st) h := by
  rw [rn_fix]; rfl
theorem e_bipush_21 : rn k μ (.bipush 21 :: cs) ls st h = rn k μ cs ls (.int 21 :: st) h := by
  rw [rn_fix]; rfl
theorem e_bipush_24 : rn k μ (.bipush 24 :: cs) ls st h = rn k μ cs ls (.int 24 :: st) h := by
  rw [rn_fix]; rfl
theorem e_bipush_27 : rn k μ (.bipush 27 :: cs) ls st h = rn k μ cs ls (.int 27 :: st) h := by
  rw [rn_fix]; rfl
theorem e_bipush_30 : rn k μ (.bipush 30 :: cs) ls st h = rn k μ cs ls (.int 30 :: st) h := by
  rw [rn_fix]; rfl
theorem e_bipush_32 : rn k μ (.bipush 32 :: cs) ls st h = rn k μ cs ls (.int 32 :: st) h := by
  rw [rn_fix]; rfl
theorem e_bipush_33 : rn k μ (.bipush 33 :: cs) ls st h = rn k μ cs ls (.int 33 :: st) h := by
  rw [rn_fix]; rfl
theorem e_bipush_37 : rn k μ (.bipush 37 :: cs) ls st h = rn k μ cs ls (.int 37 :: st) h := by
  rw [rn_fix]; rfl
theorem e_bipush_38 : rn k μ (.bipush 38 :: cs) ls st h = rn k μ cs ls (.int 38 :: st) h := by
  rw [rn_fix]; rfl
theorem e_bipush_40 : rn k μ (.bipush 40 :: cs) ls st h = rn k μ cs ls (.int 40 :: st) h := by
  rw [rn_fix]; rfl
theorem e_bipush_41 : rn k μ (.bipush 41 :: cs) ls st h = rn k μ cs ls (.int 41 :: st) h := by
  rw [rn_fix]; rfl
theorem e_bipush_42 : rn k μ (.bipush 42 :: cs) ls st h = rn k μ cs ls (.int 42 :: st) h := by
  rw [rn_fix]; rfl
theorem e_bipush_43 : rn k μ (.bipush 43 :: cs) ls st h = rn k μ cs ls (.int 43 :: st) h := by
  rw [rn_fix]; rfl
theorem e_bipush_44 : rn k μ (.bipush 44 :: cs) ls st h = rn k μ cs ls (.int 44 :: st) h := by
  rw [rn_fix]; rfl
theorem e_bipush_45 : rn k μ (.bipush 45 :: cs) ls st h = rn k μ cs ls (.int 45 :: st) h := by
  rw [rn_fix]; rfl
theorem e_bipush_47 : rn k μ (.bipush 47 :: cs) ls st h = rn k μ cs ls (.int 47 :: st) h := by
  rw [rn_fix]; rfl
theorem e_bipush_48 : rn k μ (.bipush 48 :: cs) ls st h = rn k μ cs ls (.int 48 :: st) h := by
  rw [rn_fix]; rfl
theorem e_bipush_57 : rn k μ (.bipush 57 :: cs) ls st h = rn k μ cs ls (.int 57 :: st) h := by
  rw [rn_fix]; rfl
theorem e_bipush_59 : rn k μ (.bipush 59 :: cs) ls st h = rn k μ cs ls (.int 59 :: st) h := by
  rw [rn_fix]; rfl
theorem e_bipush_6 : rn k μ (.bipush 6 :: cs) ls st h = rn k μ cs ls (.int 6 :: st) h := by
  rw [rn_fix]; rfl
theorem e_bipush_60 : rn k μ (.bipush 60 :: cs) ls st h = rn k μ cs ls (.int 60 :: st) h := by
  rw [rn_fix]; rfl
theorem e_bipush_61 : rn k μ (.bipush 61 :: cs) ls st h = rn k μ cs ls (.int 61 :: st) h := by
  rw [rn_fix]; rfl
theorem e_bipush_62 : rn k μ (.bipush 62 :: cs) ls st h = rn k μ cs ls (.int 62 :: st) h := by
  rw [rn_fix]; rfl
theorem e_bipush_63 : rn k μ (.bipush 63 :: cs) ls st h = rn k μ cs ls (.int 63 :: st) h := by
  rw [rn_fix]; rfl
theorem e_bipush_64 : rn k μ (.bipush 64 :: cs) ls st h = rn k μ cs ls (.int 64 :: st) h := by
  rw [rn_fix]; rfl
theorem e_bipush_7 : rn k μ (.bipush 7 :: cs) ls st h = rn k μ cs ls (.int 7 :: st) h := by
  rw [rn_fix]; rfl
theorem e_bipush_71 : rn k μ (.bipush 71 :: cs) ls st h = rn k μ cs ls (.int 71 :: st) h := by
  rw [rn_fix]; rfl
theorem e_bipush_8 : rn k μ (.bipush 8 :: cs) ls st h = rn k μ cs ls (.int 8 :: st) h := by
  rw [rn_fix]; rfl
theorem e_bipush_9 : rn k μ (.bipush 9 :: cs) ls st h = rn k μ cs ls (.int 9 :: st) h := by
  rw [rn_fix]; rfl
theorem e_bipush_96 : rn k μ (.bipush 96 :: cs) ls st h = rn k μ cs ls (.int 96 :: st) h := by
  rw [rn_fix]; rfl
theorem e_bipush_97 : rn k μ (.bipush 97 :: cs) ls st h = rn k μ cs ls (.int 97 :: st) h := by
  rw [rn_fix]; rfl
theorem e_bipush_99 : rn k μ (.bipush 99 :: cs) ls st h = rn k μ cs ls (.int 99 :: st) h := by
  rw [rn_fix]; rfl
theorem e_iconst_m1 : rn k μ (.iconst (-1) :: cs) ls st h = rn k μ cs ls (.int (-1) :: st) h := by
  rw [rn_fix]; rfl
theorem e_iconst_0 : rn k μ (.iconst 0 :: cs) ls st h = rn k μ cs ls (.int 0 :: st) h := by
  rw [rn_fix]; rfl
theorem e_iconst_1 : rn k μ (.iconst 1 :: cs) ls st h = rn k μ cs ls (.int 1 :: st) h := by
  rw [rn_fix]; rfl
theorem e_iconst_2 : rn k μ (.iconst 2 :: cs) ls st h = rn k μ cs ls (.int 2 :: st) h := by
  rw [rn_fix]; rfl
theorem e_iconst_3 : rn k μ (.iconst 3 :: cs) ls st h = rn k μ cs ls (.int 3 :: st) h := by
  rw [rn_fix]; rfl
theorem e_iconst_4 : rn k μ (.iconst 4 :: cs) ls st h = rn k μ cs ls (.int 4 :: st) h := by
  rw [rn_fix]; rfl
theorem e_iconst_5 : rn k μ (.iconst 5 :: cs) ls st h = rn k μ cs ls (.int 5 :: st) h := by
  rw [rn_fix]; rfl
theorem e_lconst_0 : rn k μ (.lconst 0 :: cs) ls st h = rn k μ cs ls (.long 0 :: st) h := by
  rw [rn_fix]; rfl
theorem e_sipush_1000 : rn k μ (.sipush 1000 :: cs) ls st h = rn k μ cs ls (.int 1000 :: st) h := by
  rw [rn_fix]; rfl
theorem e_sipush_10000 : rn k μ (.sipush 10000 :: cs) ls st h = rn k μ cs ls (.int 10000 :: st) h := by
  rw [rn_fix]; rfl
theorem e_sipush_1188 : rn k μ (.sipush 1188 :: cs) ls st h = rn k μ cs ls (.int 1188 :: st) h := by
  rw [rn_fix]; rfl
theorem e_sipush_1248 : rn k μ (.sipush 1248 :: cs) ls st h = rn k μ cs ls (.int 1248 :: st) h := by
  rw [rn_fix]; rfl
theorem e_sipush_1280 : rn k μ (.sipush 1280 :: cs) ls st h = rn k μ cs ls (.int 1280 :: st) h := by
  rw [rn_fix]; rfl
theorem e_sipush_137 : rn k μ (.sipush 137 :: cs) ls st h = rn k μ cs ls (.int 137 :: st) h := by
  rw [rn_fix]; rfl
theorem e_sipush_160 : rn k μ (.sipush 160 :: cs) ls st h = rn k μ cs ls (.int 160 :: st) h := by
  rw [rn_fix]; rfl
theorem e_sipush_1600 : rn k μ (.sipush 1600 :: cs) ls st h = rn k μ cs ls (.int 1600 :: st) h := by
  rw [rn_fix]; rfl
theorem e_sipush_20000 : rn k μ (.sipush 20000 :: cs) ls st h = rn k μ cs ls (.int 20000 :: st) h := by
  rw [rn_fix]; rfl
theorem e_sipush_255 : rn k μ (.sipush 255 :: cs) ls st h = rn k μ cs ls (.int 255 :: st) h := by
  rw [rn_fix]; rfl
theorem e_sipush_256 : rn k μ (.sipush 256 :: cs) ls st h = rn k μ cs ls (.int 256 :: st) h := by
  rw [rn_fix]; rfl
theorem e_sipush_320 : rn k μ (.sipush 320 :: cs) ls st h = rn k μ cs ls (.int 320 :: st) h := by
  rw [rn_fix]; rfl
theorem e_sipush_4095 : rn k μ (.sipush 4095 :: cs) ls st h = rn k μ cs ls (.int 4095 :: st) h := by
  rw [rn_fix]; rfl
theorem e_sipush_4096 : rn k μ (.sipush 4096 :: cs) ls st h = rn k μ cs ls (.int 4096 :: st) h := by
  rw [rn_fix]; rfl
theorem e_sipush_4097 : rn k μ (.sipush 4097 :: cs) ls st h = rn k μ cs ls (.int 4097 :: st) h := by
  rw [rn_fix]; rfl
theorem e_sipush_4160 : rn k μ (.sipush 4160 :: cs) ls st h = rn k μ cs ls (.int 4160 :: st) h := by
  rw [rn_fix]; rfl
theorem e_sipush_640 : rn k μ (.sipush 640 :: cs) ls st h = rn k μ cs ls (.int 640 :: st) h := by
  rw [rn_fix]; rfl
theorem e_sipush_999 : rn k μ (.sipush 999 :: cs) ls st h = rn k μ cs ls (.int 999 :: st) h := by
  rw [rn_fix]; rfl
theorem e_ldc_100000 : rn k μ (.ldc 100000 :: cs) ls st h = rn k μ cs ls (.int 100000 :: st) h := by
  rw [rn_fix]; rfl
theorem e_ldcw_100000 : rn k μ (.ldc_w 100000 :: cs) ls st h = rn k μ cs ls (.int 100000 :: st) h := by
  rw [rn_fix]; rfl
theorem e_ldc_252645135 : rn k μ (.ldc 252645135 :: cs) ls st h = rn k μ cs ls (.int 252645135 :: st) h := by
  rw [rn_fix]; rfl
theorem e_ldcw_252645135 : rn k μ (.ldc_w 252645135 :: cs) ls st h = rn k μ cs ls (.int 252645135 :: st) h := by
  rw [rn_fix]; rfl
theorem e_ldc_858993459 : rn k μ (.ldc 858993459 :: cs) ls st h = rn k μ cs ls (.int 858993459 :: st) h := by
  rw [rn_fix]; rfl
theorem e_ldcw_858993459 : rn k μ (.ldc_w 858993459 :: cs) ls st h = rn k μ cs ls (.int 858993459 :: st) h := by
  rw [rn_fix]; rfl
theorem e_ldc_1431655765 : rn k μ (.ldc 1431655765 :: cs) ls st h = rn k μ cs ls (.int 1431655765 :: st) h := by
  rw [rn_fix]; rfl
theorem e_ldcw_1431655765 : rn k μ (.ldc_w 1431655765 :: cs) ls st h = rn k μ cs ls (.int 1431655765 :: st) h := by
  rw [rn_fix]; rfl
theorem e_ldc2_26982 : rn k μ (.ldc2_w 26982 :: cs) ls st h = rn k μ cs ls (.long 26982 :: st) h := by
  rw [rn_fix]; rfl
theorem e_ldc2_28526 : rn k μ (.ldc2_w 28526 :: cs) ls st h = rn k μ cs ls (.long 28526 :: st) h := by
  rw [rn_fix]; rfl
theorem e_ldc2_28530 : rn k μ (.ldc2_w 28530 :: cs) ls st h = rn k μ cs ls (.long 28530 :: st) h := by
  rw [rn_fix]; rfl
theorem e_ldc2_6383981 : rn k μ (.ldc2_w 6383981 :: cs) ls st h = rn k μ cs ls (.long 6383981 :: st) h := by
  rw [rn_fix]; rfl
theorem e_ldc2_6385252 : rn k μ (.ldc2_w 6385252 :: cs) ls st h = rn k μ cs ls (.long 6385252 :: st) h := by
  rw [rn_fix]; rfl
theorem e_ldc2_7237492 : rn k μ (.ldc2_w 7237492 :: cs) ls st h = rn k μ cs ls (.long 7237492 :: st) h := by
  rw [rn_fix]; rfl
theorem e_ldc2_7562612 : rn k μ (.ldc2_w 7562612 :: cs) ls st h = rn k μ cs ls (.long 7562612 :: st) h := by
  rw [rn_fix]; rfl
theorem e_ldc2_1650553459 : rn k μ (.ldc2_w 1650553459 :: cs) ls st h = rn k μ cs ls (.long 1650553459 :: st) h := by
  rw [rn_fix]; rfl
theorem e_ldc2_1870030194 : rn k μ (.ldc2_w 1870030194 :: cs) ls st h = rn k μ cs ls (.long 1870030194 :: st) h := by
  rw [rn_fix]; rfl
theorem e_ldc2_1935767923 : rn k μ (.ldc2_w 1935767923 :: cs) ls st h = rn k μ cs ls (.long 1935767923 :: st) h := by
  rw [rn_fix]; rfl
theorem e_ldc2_1936024932 : rn k μ (.ldc2_w 1936024932 :: cs) ls st h = rn k μ cs ls (.long 1936024932 :: st) h := by
  rw [rn_fix]; rfl
theorem e_ldc2_1953654117 : rn k μ (.ldc2_w 1953654117 :: cs) ls st h = rn k μ cs ls (.long 1953654117 :: st) h := by
  rw [rn_fix]; rfl
theorem e_ldc2_422607680115 : rn k μ (.ldc2_w 422607680115 :: cs) ls st h = rn k μ cs ls (.long 422607680115 :: st) h := by
  rw [rn_fix]; rfl
theorem e_ldc2_465491486066 : rn k μ (.ldc2_w 465491486066 :: cs) ls st h = rn k μ cs ls (.long 465491486066 :: st) h := by
  rw [rn_fix]; rfl
theorem e_ldc2_474147546227 : rn k μ (.ldc2_w 474147546227 :: cs) ls st h = rn k μ cs ls (.long 474147546227 :: st) h := by
  rw [rn_fix]; rfl
theorem e_ldc2_500135192948 : rn k μ (.ldc2_w 500135192948 :: cs) ls st h = rn k μ cs ls (.long 500135192948 :: st) h := by
  rw [rn_fix]; rfl
theorem e_ldc2_109317142704997 : rn k μ (.ldc2_w 109317142704997 :: cs) ls st h = rn k μ cs ls (.long 109317142704997 :: st) h := by
  rw [rn_fix]; rfl
theorem e_ldc2_121364810985335 : rn k μ (.ldc2_w 121364810985335 :: cs) ls st h = rn k μ cs ls (.long 121364810985335 :: st) h := by
  rw [rn_fix]; rfl
theorem e_ldc2_28832984692515955 : rn k μ (.ldc2_w 28832984692515955 :: cs) ls st h = rn k μ cs ls (.long 28832984692515955 :: st) h := by
  rw [rn_fix]; rfl
theorem e_ldc2_32498692185748083 : rn k μ (.ldc2_w 32498692185748083 :: cs) ls st h = rn k μ cs ls (.long 32498692185748083 :: st) h := by
  rw [rn_fix]; rfl
theorem e_ldc2_m1 : rn k μ (.ldc2_w 18446744073709551615 :: cs) ls st h = rn k μ cs ls (.long (-1) :: st) h := by
  rw [rn_fix]; rfl
theorem e_aload_4 (l0 l1 l2 l3 : Option Value) (x : Nat) : rn k μ (.aload 4 :: cs) (l0 :: l1 :: l2 :: l3 :: some (.ref x) :: ls) st h = rn k μ cs (l0 :: l1 :: l2 :: l3 :: some (.ref x) :: ls) (.ref x :: st) h := by
  rw [rn_fix]; rfl
theorem e_aload_5 (l0 l1 l2 l3 l4 : Option Value) (x : Nat) : rn k μ (.aload 5 :: cs) (l0 :: l1 :: l2 :: l3 :: l4 :: some (.ref x) :: ls) st h = rn k μ cs (l0 :: l1 :: l2 :: l3 :: l4 :: some (.ref x) :: ls) (.ref x :: st) h := by
  rw [rn_fix]; rfl
theorem e_aload_n_0 (x : Nat) : rn k μ (.aload_n 0 :: cs) (some (.ref x) :: ls) st h = rn k μ cs (some (.ref x) :: ls) (.ref x :: st) h := by
  rw [rn_fix]; rfl
theorem e_aload_n_1 (l0 : Option Value) (x : Nat) : rn k μ (.aload_n 1 :: cs) (l0 :: some (.ref x) :: ls) st h = rn k μ cs (l0 :: some (.ref x) :: ls) (.ref x :: st) h := by
  rw [rn_fix]; rfl
theorem e_aload_n_2 (l0 l1 : Option Value) (x : Nat) : rn k μ (.aload_n 2 :: cs) (l0 :: l1 :: some (.ref x) :: ls) st h = rn k μ cs (l0 :: l1 :: some (.ref x) :: ls) (.ref x :: st) h := by
  rw [rn_fix]; rfl
theorem e_aload_n_3 (l0 l1 l2 : Option Value) (x : Nat) : rn k μ (.aload_n 3 :: cs) (l0 :: l1 :: l2 :: some (.ref x) :: ls) st h = rn k μ cs (l0 :: l1 :: l2 :: some (.ref x) :: ls) (.ref x :: st) h := by
  rw [rn_fix]; rfl
theorem e_astore_4 (l0 l1 l2 l3 l4 : Option Value) (x : Nat) : rn k μ (.astore 4 :: cs) (l0 :: l1 :: l2 :: l3 :: l4 :: ls) (.ref x :: st) h = rn k μ cs (l0 :: l1 :: l2 :: clr l3 :: some (.ref x) :: ls) st h := by
  rw [rn_fix]; simp only [stp, sti, sta, stg, List.length_cons]; rw [if_pos (by show 4 < _; omega)]; rfl
theorem e_astore_n_1 (l0 l1 : Option Value) (x : Nat) : rn k μ (.astore_n 1 :: cs) (l0 :: l1 :: ls) (.ref x :: st) h = rn k μ cs (clr l0 :: some (.ref x) :: ls) st h := by
  rw [rn_fix]; simp only [stp, sti, sta, stg, List.length_cons]; rw [if_pos (by show 1 < _; omega)]; rfl
theorem e_astore_n_2 (l0 l1 l2 : Option Value) (x : Nat) : rn k μ (.astore_n 2 :: cs) (l0 :: l1 :: l2 :: ls) (.ref x :: st) h = rn k μ cs (l0 :: clr l1 :: some (.ref x) :: ls) st h := by
  rw [rn_fix]; simp only [stp, sti, sta, stg, List.length_cons]; rw [if_pos (by show 2 < _; omega)]; rfl
theorem e_iinc_1_m1 (l0 : Option Value) (x : Int32) : rn k μ (.iinc 1 (-1) :: cs) (l0 :: some (.int x) :: ls) st h = rn k μ cs (clr l0 :: some (.int (x + (-1))) :: ls) st h := by
  rw [rn_fix]; rfl
theorem e_iinc_1_1 (l0 : Option Value) (x : Int32) : rn k μ (.iinc 1 1 :: cs) (l0 :: some (.int x) :: ls) st h = rn k μ cs (clr l0 :: some (.int (x + 1)) :: ls) st h := by
  rw [rn_fix]; rfl
theorem e_iinc_2_m8 (l0 l1 : Option Value) (x : Int32) : rn k μ (.iinc 2 (-8) :: cs) (l0 :: l1 :: some (.int x) :: ls) st h = rn k μ cs (l0 :: clr l1 :: some (.int (x + (-8))) :: ls) st h := by
  rw [rn_fix]; rfl
theorem e_iinc_2_1 (l0 l1 : Option Value) (x : Int32) : rn k μ (.iinc 2 1 :: cs) (l0 :: l1 :: some (.int x) :: ls) st h = rn k μ cs (l0 :: clr l1 :: some (.int (x + 1)) :: ls) st h := by
  rw [rn_fix]; rfl
theorem e_iinc_3_m1 (l0 l1 l2 : Option Value) (x : Int32) : rn k μ (.iinc 3 (-1) :: cs) (l0 :: l1 :: l2 :: some (.int x) :: ls) st h = rn k μ cs (l0 :: l1 :: clr l2 :: some (.int (x + (-1))) :: ls) st h := by
  rw [rn_fix]; rfl
theorem e_iinc_3_1 (l0 l1 l2 : Option Value) (x : Int32) : rn k μ (.iinc 3 1 :: cs) (l0 :: l1 :: l2 :: some (.int x) :: ls) st h = rn k μ cs (l0 :: l1 :: clr l2 :: some (.int (x + 1)) :: ls) st h := by
  rw [rn_fix]; rfl
theorem e_iinc_3_6 (l0 l1 l2 : Option Value) (x : Int32) : rn k μ (.iinc 3 6 :: cs) (l0 :: l1 :: l2 :: some (.int x) :: ls) st h = rn k μ cs (l0 :: l1 :: clr l2 :: some (.int (x + 6)) :: ls) st h := by
  rw [rn_fix]; rfl
theorem e_iinc_4_m1 (l0 l1 l2 l3 : Option Value) (x : Int32) : rn k μ (.iinc 4 (-1) :: cs) (l0 :: l1 :: l2 :: l3 :: some (.int x) :: ls) st h = rn k μ cs (l0 :: l1 :: l2 :: clr l3 :: some (.int (x + (-1))) :: ls) st h := by
  rw [rn_fix]; rfl
theorem e_iinc_4_1 (l0 l1 l2 l3 : Option Value) (x : Int32) : rn k μ (.iinc 4 1 :: cs) (l0 :: l1 :: l2 :: l3 :: some (.int x) :: ls) st h = rn k μ cs (l0 :: l1 :: l2 :: clr l3 :: some (.int (x + 1)) :: ls) st h := by
  rw [rn_fix]; rfl
theorem e_iinc_5_1 (l0 l1 l2 l3 l4 : Option Value) (x : Int32) : rn k μ (.iinc 5 1 :: cs) (l0 :: l1 :: l2 :: l3 :: l4 :: some (.int x) :: ls) st h = rn k μ cs (l0 :: l1 :: l2 :: l3 :: clr l4 :: some (.int (x + 1)) :: ls) st h := by
  rw [rn_fix]; rfl
theorem e_iinc_6_1 (l0 l1 l2 l3 l4 l5 : Option Value) (x : Int32) : rn k μ (.iinc 6 1 :: cs) (l0 :: l1 :: l2 :: l3 :: l4 :: l5 :: some (.int x) :: ls) st h = rn k μ cs (l0 :: l1 :: l2 :: l3 :: l4 :: clr l5 :: some (.int (x + 1)) :: ls) st h := by
  rw [rn_fix]; rfl
theorem e_iinc_7_1 (l0 l1 l2 l3 l4 l5 l6 : Option Value) (x : Int32) : rn k μ (.iinc 7 1 :: cs) (l0 :: l1 :: l2 :: l3 :: l4 :: l5 :: l6 :: some (.int x) :: ls) st h = rn k μ cs (l0 :: l1 :: l2 :: l3 :: l4 :: l5 :: clr l6 :: some (.int (x + 1)) :: ls) st h := by
  rw [rn_fix]; rfl
theorem e_iinc_8_1 (l0 l1 l2 l3 l4 l5 l6 l7 : Option Value) (x : Int32) : rn k μ (.iinc 8 1 :: cs) (l0 :: l1 :: l2 :: l3 :: l4 :: l5 :: l6 :: l7 :: some (.int x) :: ls) st h = rn k μ cs (l0 :: l1 :: l2 :: l3 :: l4 :: l5 :: l6 :: clr l7 :: some (.int (x + 1)) :: ls) st h := by
  rw [rn_fix]; rfl
theorem e_iinc_9_1 (l0 l1 l2 l3 l4 l5 l6 l7 l8 : Option Value) (x : Int32) : rn k μ (.iinc 9 1 :: cs) (l0 :: l1 :: l2 :: l3 :: l4 :: l5 :: l6 :: l7 :: l8 :: some (.int x) :: ls) st h = rn k μ cs (l0 :: l1 :: l2 :: l3 :: l4 :: l5 :: l6 :: l7 :: clr l8 :: some (.int (x + 1)) :: ls) st h := by
  rw [rn_fix]; rfl
theorem e_iload_10 (l0 l1 l2 l3 l4 l5 l6 l7 l8 l9 : Option Value) (x : Int32) : rn k μ (.iload 10 :: cs) (l0 :: l1 :: l2 :: l3 :: l4 :: l5 :: l6 :: l7 :: l8 :: l9 :: some (.int x) :: ls) st h = rn k μ cs (l0 :: l1 :: l2 :: l3 :: l4 :: l5 :: l6 :: l7 :: l8 :: l9 :: some (.int x) :: ls) (.int x :: st) h := by
  rw [rn_fix]; rfl
theorem e_iload_11 (l0 l1 l2 l3 l4 l5 l6 l7 l8 l9 l10 : Option Value) (x : Int32) : rn k μ (.iload 11 :: cs) (l0 :: l1 :: l2 :: l3 :: l4 :: l5 :: l6 :: l7 :: l8 :: l9 :: l10 :: some (.int x) :: ls) st h = rn k μ cs (l0 :: l1 :: l2 :: l3 :: l4 :: l5 :: l6 :: l7 :: l8 :: l9 :: l10 :: some (.int x) :: ls) (.int x :: st) h := by
  rw [rn_fix]; rfl
theorem e_iload_4 (l0 l1 l2 l3 : Option Value) (x : Int32) : rn k μ (.iload 4 :: cs) (l0 :: l1 :: l2 :: l3 :: some (.int x) :: ls) st h = rn k μ cs (l0 :: l1 :: l2 :: l3 :: some (.int x) :: ls) (.int x :: st) h := by
  rw [rn_fix]; rfl
theorem e_iload_5 (l0 l1 l2 l3 l4 : Option Value) (x : Int32) : rn k μ (.iload 5 :: cs) (l0 :: l1 :: l2 :: l3 :: l4 :: some (.int x) :: ls) st h = rn k μ cs (l0 :: l1 :: l2 :: l3 :: l4 :: some (.int x) :: ls) (.int x :: st) h := by
  rw [rn_fix]; rfl
theorem e_iload_6 (l0 l1 l2 l3 l4 l5 : Option Value) (x : Int32) : rn k μ (.iload 6 :: cs) (l0 :: l1 :: l2 :: l3 :: l4 :: l5 :: some (.int x) :: ls) st h = rn k μ cs (l0 :: l1 :: l2 :: l3 :: l4 :: l5 :: some (.int x) :: ls) (.int x :: st) h := by
  rw [rn_fix]; rfl
theorem e_iload_7 (l0 l1 l2 l3 l4 l5 l6 : Option Value) (x : Int32) : rn k μ (.iload 7 :: cs) (l0 :: l1 :: l2 :: l3 :: l4 :: l5 :: l6 :: some (.int x) :: ls) st h = rn k μ cs (l0 :: l1 :: l2 :: l3 :: l4 :: l5 :: l6 :: some (.int x) :: ls) (.int x :: st) h := by
  rw [rn_fix]; rfl
theorem e_iload_8 (l0 l1 l2 l3 l4 l5 l6 l7 : Option Value) (x : Int32) : rn k μ (.iload 8 :: cs) (l0 :: l1 :: l2 :: l3 :: l4 :: l5 :: l6 :: l7 :: some (.int x) :: ls) st h = rn k μ cs (l0 :: l1 :: l2 :: l3 :: l4 :: l5 :: l6 :: l7 :: some (.int x) :: ls) (.int x :: st) h := by
  rw [rn_fix]; rfl
theorem e_iload_9 (l0 l1 l2 l3 l4 l5 l6 l7 l8 : Option Value) (x : Int32) : rn k μ (.iload 9 :: cs) (l0 :: l1 :: l2 :: l3 :: l4 :: l5 :: l6 :: l7 :: l8 :: some (.int x) :: ls) st h = rn k μ cs (l0 :: l1 :: l2 :: l3 :: l4 :: l5 :: l6 :: l7 :: l8 :: some (.int x) :: ls) (.int x :: st) h := by
  rw [rn_fix]; rfl
theorem e_iload_n_0 (x : Int32) : rn k μ (.iload_n 0 :: cs) (some (.int x) :: ls) st h = rn k μ cs (some (.int x) :: ls) (.int x :: st) h := by
  rw [rn_fix]; rfl
theorem e_iload_n_1 (l0 : Option Value) (x : Int32) : rn k μ (.iload_n 1 :: cs) (l0 :: some (.int x) :: ls) st h = rn k μ cs (l0 :: some (.int x) :: ls) (.int x :: st) h := by
  rw [rn_fix]; rfl
theorem e_iload_n_2 (l0 l1 : Option Value) (x : Int32) : rn k μ (.iload_n 2 :: cs) (l0 :: l1 :: some (.int x) :: ls) st h = rn k μ cs (l0 :: l1 :: some (.int x) :: ls) (.int x :: st) h := by
  rw [rn_fix]; rfl
theorem e_iload_n_3 (l0 l1 l2 : Option Value) (x : Int32) : rn k μ (.iload_n 3 :: cs) (l0 :: l1 :: l2 :: some (.int x) :: ls) st h = rn k μ cs (l0 :: l1 :: l2 :: some (.int x) :: ls) (.int x :: st) h := by
  rw [rn_fix]; rfl
theorem e_istore_10 (l0 l1 l2 l3 l4 l5 l6 l7 l8 l9 l10 : Option Value) (x : Int32) : rn k μ (.istore 10 :: cs) (l0 :: l1 :: l2 :: l3 :: l4 :: l5 :: l6 :: l7 :: l8 :: l9 :: l10 :: ls) (.int x :: st) h = rn k μ cs (l0 :: l1 :: l2 :: l3 :: l4 :: l5 :: l6 :: l7 :: l8 :: clr l9 :: some (.int x) :: ls) st h := by
  rw [rn_fix]; simp only [stp, sti, sta, stg, List.length_cons]; rw [if_pos (by show 10 < _; omega)]; rfl
theorem e_istore_11 (l0 l1 l2 l3 l4 l5 l6 l7 l8 l9 l10 l11 : Option Value) (x : Int32) : rn k μ (.istore 11 :: cs) (l0 :: l1 :: l2 :: l3 :: l4 :: l5 :: l6 :: l7 :: l8 :: l9 :: l10 :: l11 :: ls) (.int x :: st) h = rn k μ cs (l0 :: l1 :: l2 :: l3 :: l4 :: l5 :: l6 :: l7 :: l8 :: l9 :: clr l10 :: some (.int x) :: ls) st h := by
  rw [rn_fix]; simp only [stp, sti, sta, stg, List.length_cons]; rw [if_pos (by show 11 < _; omega)]; rfl
theorem e_istore_4 (l0 l1 l2 l3 l4 : Option Value) (x : Int32) : rn k μ (.istore 4 :: cs) (l0 :: l1 :: l2 :: l3 :: l4 :: ls) (.int x :: st) h = rn k μ cs (l0 :: l1 :: l2 :: clr l3 :: some (.int x) :: ls) st h := by
  rw [rn_fix]; simp only [stp, sti, sta, stg, List.length_cons]; rw [if_pos (by show 4 < _; omega)]; rfl
theorem e_istore_5 (l0 l1 l2 l3 l4 l5 : Option Value) (x : Int32) : rn k μ (.istore 5 :: cs) (l0 :: l1 :: l2 :: l3 :: l4 :: l5 :: ls) (.int x :: st) h = rn k μ cs (l0 :: l1 :: l2 :: l3 :: clr l4 :: some (.int x) :: ls) st h := by
  rw [rn_fix]; simp only [stp, sti, sta, stg, List.length_cons]; rw [if_pos (by show 5 < _; omega)]; rfl
theorem e_istore_6 (l0 l1 l2 l3 l4 l5 l6 : Option Value) (x : Int32) : rn k μ (.istore 6 :: cs) (l0 :: l1 :: l2 :: l3 :: l4 :: l5 :: l6 :: ls) (.int x :: st) h = rn k μ cs (l0 :: l1 :: l2 :: l3 :: l4 :: clr l5 :: some (.int x) :: ls) st h := by
  rw [rn_fix]; simp only [stp, sti, sta, stg, List.length_cons]; rw [if_pos (by show 6 < _; omega)]; rfl
theorem e_istore_7 (l0 l1 l2 l3 l4 l5 l6 l7 : Option Value) (x : Int32) : rn k μ (.istore 7 :: cs) (l0 :: l1 :: l2 :: l3 :: l4 :: l5 :: l6 :: l7 :: ls) (.int x :: st) h = rn k μ cs (l0 :: l1 :: l2 :: l3 :: l4 :: l5 :: clr l6 :: some (.int x) :: ls) st h := by
  rw [rn_fix]; simp only [stp, sti, sta, stg, List.length_cons]; rw [if_pos (by show 7 < _; omega)]; rfl
theorem e_istore_8 (l0 l1 l2 l3 l4 l5 l6 l7 l8 : Option Value) (x : Int32) : rn k μ (.istore 8 :: cs) (l0 :: l1 :: l2 :: l3 :: l4 :: l5 :: l6 :: l7 :: l8 :: ls) (.int x :: st) h = rn k μ cs (l0 :: l1 :: l2 :: l3 :: l4 :: l5 :: l6 :: clr l7 :: some (.int x) :: ls) st h := by
  rw [rn_fix]; simp only [stp, sti, sta, stg, List.length_cons]; rw [if_pos (by show 8 < _; omega)]; rfl
theorem e_istore_9 (l0 l1 l2 l3 l4 l5 l6 l7 l8 l9 : Option Value) (x : Int32) : rn k μ (.istore 9 :: cs) (l0 :: l1 :: l2 :: l3 :: l4 :: l5 :: l6 :: l7 :: l8 :: l9 :: ls) (.int x :: st) h = rn k μ cs (l0 :: l1 :: l2 :: l3 :: l4 :: l5 :: l6 :: l7 :: clr l8 :: some (.int x) :: ls) st h := by
  rw [rn_fix]; simp only [stp, sti, sta, stg, List.length_cons]; rw [if_pos (by show 9 < _; omega)]; rfl
theorem e_istore_n_0 (l0 : Option Value) (x : Int32) : rn k μ (.istore_n 0 :: cs) (l0 :: ls) (.int x :: st) h = rn k μ cs (some (.int x) :: ls) st h := by
  rw [rn_fix]; simp only [stp, sti, sta, stg, List.length_cons]; rw [if_pos (by show 0 < _; omega)]; rfl
theorem e_istore_n_1 (l0 l1 : Option Value) (x : Int32) : rn k μ (.istore_n 1 :: cs) (l0 :: l1 :: ls) (.int x :: st) h = rn k μ cs (clr l0 :: some (.int x) :: ls) st h := by
  rw [rn_fix]; simp only [stp, sti, sta, stg, List.length_cons]; rw [if_pos (by show 1 < _; omega)]; rfl
theorem e_istore_n_2 (l0 l1 l2 : Option Value) (x : Int32) : rn k μ (.istore_n 2 :: cs) (l0 :: l1 :: l2 :: ls) (.int x :: st) h = rn k μ cs (l0 :: clr l1 :: some (.int x) :: ls) st h := by
  rw [rn_fix]; simp only [stp, sti, sta, stg, List.length_cons]; rw [if_pos (by show 2 < _; omega)]; rfl
theorem e_istore_n_3 (l0 l1 l2 l3 : Option Value) (x : Int32) : rn k μ (.istore_n 3 :: cs) (l0 :: l1 :: l2 :: l3 :: ls) (.int x :: st) h = rn k μ cs (l0 :: l1 :: clr l2 :: some (.int x) :: ls) st h := by
  rw [rn_fix]; simp only [stp, sti, sta, stg, List.length_cons]; rw [if_pos (by show 3 < _; omega)]; rfl
theorem e_lload_4 (l0 l1 l2 l3 : Option Value) (x : Int64) : rn k μ (.lload 4 :: cs) (l0 :: l1 :: l2 :: l3 :: some (.long x) :: ls) st h = rn k μ cs (l0 :: l1 :: l2 :: l3 :: some (.long x) :: ls) (.long x :: st) h := by
  rw [rn_fix]; rfl
theorem e_lload_5 (l0 l1 l2 l3 l4 : Option Value) (x : Int64) : rn k μ (.lload 5 :: cs) (l0 :: l1 :: l2 :: l3 :: l4 :: some (.long x) :: ls) st h = rn k μ cs (l0 :: l1 :: l2 :: l3 :: l4 :: some (.long x) :: ls) (.long x :: st) h := by
  rw [rn_fix]; rfl
theorem e_lload_7 (l0 l1 l2 l3 l4 l5 l6 : Option Value) (x : Int64) : rn k μ (.lload 7 :: cs) (l0 :: l1 :: l2 :: l3 :: l4 :: l5 :: l6 :: some (.long x) :: ls) st h = rn k μ cs (l0 :: l1 :: l2 :: l3 :: l4 :: l5 :: l6 :: some (.long x) :: ls) (.long x :: st) h := by
  rw [rn_fix]; rfl
theorem e_lload_8 (l0 l1 l2 l3 l4 l5 l6 l7 : Option Value) (x : Int64) : rn k μ (.lload 8 :: cs) (l0 :: l1 :: l2 :: l3 :: l4 :: l5 :: l6 :: l7 :: some (.long x) :: ls) st h = rn k μ cs (l0 :: l1 :: l2 :: l3 :: l4 :: l5 :: l6 :: l7 :: some (.long x) :: ls) (.long x :: st) h := by
  rw [rn_fix]; rfl
theorem e_lload_n_1 (l0 : Option Value) (x : Int64) : rn k μ (.lload_n 1 :: cs) (l0 :: some (.long x) :: ls) st h = rn k μ cs (l0 :: some (.long x) :: ls) (.long x :: st) h := by
  rw [rn_fix]; rfl
theorem e_lload_n_2 (l0 l1 : Option Value) (x : Int64) : rn k μ (.lload_n 2 :: cs) (l0 :: l1 :: some (.long x) :: ls) st h = rn k μ cs (l0 :: l1 :: some (.long x) :: ls) (.long x :: st) h := by
  rw [rn_fix]; rfl
theorem e_lload_n_3 (l0 l1 l2 : Option Value) (x : Int64) : rn k μ (.lload_n 3 :: cs) (l0 :: l1 :: l2 :: some (.long x) :: ls) st h = rn k μ cs (l0 :: l1 :: l2 :: some (.long x) :: ls) (.long x :: st) h := by
  rw [rn_fix]; rfl
theorem e_lstore_4 (l0 l1 l2 l3 l4 l5 : Option Value) (x : Int64) : rn k μ (.lstore 4 :: cs) (l0 :: l1 :: l2 :: l3 :: l4 :: l5 :: ls) (.long x :: st) h = rn k μ cs (l0 :: l1 :: l2 :: clr l3 :: some (.long x) :: none :: ls) st h := by
  rw [rn_fix]; simp only [stp, sti, sta, stg, List.length_cons]; rw [if_pos (by show 5 < _; omega)]; rfl
theorem e_lstore_5 (l0 l1 l2 l3 l4 l5 l6 : Option Value) (x : Int64) : rn k μ (.lstore 5 :: cs) (l0 :: l1 :: l2 :: l3 :: l4 :: l5 :: l6 :: ls) (.long x :: st) h = rn k μ cs (l0 :: l1 :: l2 :: l3 :: clr l4 :: some (.long x) :: none :: ls) st h := by
  rw [rn_fix]; simp only [stp, sti, sta, stg, List.length_cons]; rw [if_pos (by show 6 < _; omega)]; rfl
theorem e_lstore_7 (l0 l1 l2 l3 l4 l5 l6 l7 l8 : Option Value) (x : Int64) : rn k μ (.lstore 7 :: cs) (l0 :: l1 :: l2 :: l3 :: l4 :: l5 :: l6 :: l7 :: l8 :: ls) (.long x :: st) h = rn k μ cs (l0 :: l1 :: l2 :: l3 :: l4 :: l5 :: clr l6 :: some (.long x) :: none :: ls) st h := by
  rw [rn_fix]; simp only [stp, sti, sta, stg, List.length_cons]; rw [if_pos (by show 8 < _; omega)]; rfl
theorem e_lstore_8 (l0 l1 l2 l3 l4 l5 l6 l7 l8 l9 : Option Value) (x : Int64) : rn k μ (.lstore 8 :: cs) (l0 :: l1 :: l2 :: l3 :: l4 :: l5 :: l6 :: l7 :: l8 :: l9 :: ls) (.long x :: st) h = rn k μ cs (l0 :: l1 :: l2 :: l3 :: l4 :: l5 :: l6 :: clr l7 :: some (.long x) :: none :: ls) st h := by
  rw [rn_fix]; simp only [stp, sti, sta, stg, List.length_cons]; rw [if_pos (by show 9 < _; omega)]; rfl
theorem e_lstore_n_1 (l0 l1 l2 : Option Value) (x : Int64) : rn k μ (.lstore_n 1 :: cs) (l0 :: l1 :: l2 :: ls) (.long x :: st) h = rn k μ cs (clr l0 :: some (.long x) :: none :: ls) st h := by
  rw [rn_fix]; simp only [stp, sti, sta, stg, List.length_cons]; rw [if_pos (by show 2 < _; omega)]; rfl
theorem e_lstore_n_2 (l0 l1 l2 l3 : Option Value) (x : Int64) : rn k μ (.lstore_n 2 :: cs) (l0 :: l1 :: l2 :: l3 :: ls) (.long x :: st) h = rn k μ cs (l0 :: clr l1 :: some (.long x) :: none :: ls) st h := by
  rw [rn_fix]; simp only [stp, sti, sta, stg, List.length_cons]; rw [if_pos (by show 3 < _; omega)]; rfl
theorem e_lstore_n_3 (l0 l1 l2 l3 l4 : Option Value) (x : Int64) : rn k μ (.lstore_n 3 :: cs) (l0 :: l1 :: l2 :: l3 :: l4 :: ls) (.long x :: st) h = rn k μ cs (l0 :: l1 :: clr l2 :: some (.long x) :: none :: ls) st h := by
  rw [rn_fix]; simp only [stp, sti, sta, stg, List.length_cons]; rw [if_pos (by show 4 < _; omega)]; rfl
theorem e_iadd (x y : Int32) : rn k μ (.iadd :: cs) ls (.int y :: .int x :: st) h = rn k μ cs ls (.int (x + y) :: st) h := by
  rw [rn_fix]; rfl
theorem e_isub (x y : Int32) : rn k μ (.isub :: cs) ls (.int y :: .int x :: st) h = rn k μ cs ls (.int (x - y) :: st) h := by
  rw [rn_fix]; rfl
theorem e_imul (x y : Int32) : rn k μ (.imul :: cs) ls (.int y :: .int x :: st) h = rn k μ cs ls (.int (x * y) :: st) h := by
  rw [rn_fix]; rfl
theorem e_iand (x y : Int32) : rn k μ (.iand :: cs) ls (.int y :: .int x :: st) h = rn k μ cs ls (.int (x &&& y) :: st) h := by
  rw [rn_fix]; rfl
theorem e_ior (x y : Int32) : rn k μ (.ior :: cs) ls (.int y :: .int x :: st) h = rn k μ cs ls (.int (x ||| y) :: st) h := by
  rw [rn_fix]; rfl
theorem e_ixor (x y : Int32) : rn k μ (.ixor :: cs) ls (.int y :: .int x :: st) h = rn k μ cs ls (.int (x ^^^ y) :: st) h := by
  rw [rn_fix]; rfl
theorem e_ishl (x y : Int32) : rn k μ (.ishl :: cs) ls (.int y :: .int x :: st) h = rn k μ cs ls (.int (x <<< (y &&& 31)) :: st) h := by
  rw [rn_fix]; rfl
theorem e_ishr (x y : Int32) : rn k μ (.ishr :: cs) ls (.int y :: .int x :: st) h = rn k μ cs ls (.int (x >>> (y &&& 31)) :: st) h := by
  rw [rn_fix]; rfl
theorem e_iushr (x y : Int32) : rn k μ (.iushr :: cs) ls (.int y :: .int x :: st) h = rn k μ cs ls (.int ((x.toUInt32 >>> (y.toUInt32 &&& Int32.toUInt32 31)).toInt32) :: st) h := by
  rw [rn_fix]; rfl
theorem e_idiv (x y : Int32) : (¬ y = 0) → rn k μ (.idiv :: cs) ls (.int y :: .int x :: st) h = rn k μ cs ls (.int (x / y) :: st) h := by
  intro hy; rw [rn_fix]; simp only [stp, o2z]; rw [if_neg hy]; rfl
theorem e_irem (x y : Int32) : (¬ y = 0) → rn k μ (.irem :: cs) ls (.int y :: .int x :: st) h = rn k μ cs ls (.int (x - x / y * y) :: st) h := by
  intro hy; rw [rn_fix]; simp only [stp, o2z]; rw [if_neg hy]; rfl
theorem e_ineg (x : Int32) : rn k μ (.ineg :: cs) ls (.int x :: st) h = rn k μ cs ls (.int (-x) :: st) h := by
  rw [rn_fix]; rfl
theorem e_i2b (x : Int32) : rn k μ (.i2b :: cs) ls (.int x :: st) h = rn k μ cs ls (.int (x.toInt8.toInt32) :: st) h := by
  rw [rn_fix]; rfl
theorem e_i2s (x : Int32) : rn k μ (.i2s :: cs) ls (.int x :: st) h = rn k μ cs ls (.int (x.toInt16.toInt32) :: st) h := by
  rw [rn_fix]; rfl
theorem e_ladd (x y : Int64) : rn k μ (.ladd :: cs) ls (.long y :: .long x :: st) h = rn k μ cs ls (.long (x + y) :: st) h := by
  rw [rn_fix]; rfl
theorem e_lor (x y : Int64) : rn k μ (.lor :: cs) ls (.long y :: .long x :: st) h = rn k μ cs ls (.long (x ||| y) :: st) h := by
  rw [rn_fix]; rfl
theorem e_lshl (x : Int64) (y : Int32) : rn k μ (.lshl :: cs) ls (.int y :: .long x :: st) h = rn k μ cs ls (.long (x <<< (y.toInt64 &&& 63)) :: st) h := by
  rw [rn_fix]; rfl
theorem e_i2l (x : Int32) : rn k μ (.i2l :: cs) ls (.int x :: st) h = rn k μ cs ls (.long x.toInt64 :: st) h := by
  rw [rn_fix]; rfl
theorem e_lcmp (x y : Int64) : rn k μ (.lcmp :: cs) ls (.long y :: .long x :: st) h = rn k μ cs ls (.int (lg_cmp x y) :: st) h := by
  rw [rn_fix]; rfl
theorem e_dup_i (x : Int32) : rn k μ (.dup :: cs) ls (.int x :: st) h = rn k μ cs ls (.int x :: .int x :: st) h := by
  rw [rn_fix]; rfl
theorem e_dup_a (x : Nat) : rn k μ (.dup :: cs) ls (.ref x :: st) h = rn k μ cs ls (.ref x :: .ref x :: st) h := by
  rw [rn_fix]; rfl
theorem e_dup2 (x : Int32) (y : Nat) : rn k μ (.dup2 :: cs) ls (.int x :: .ref y :: st) h = rn k μ cs ls (.int x :: .ref y :: .int x :: .ref y :: st) h := by
  rw [rn_fix]; rfl
theorem e_if_eq (t : Int) (x : Int32) : rn k μ (.ifCond .eq t :: cs) ls (.int x :: st) h = if x = 0 then rn k μ (tgt k t) ls st h else rn k μ cs ls st h := by
  rw [rn_fix]
  show KK rn k μ (if x = 0 then _ else _) = _
  split
  · rfl
  · rfl
theorem e_if_ne (t : Int) (x : Int32) : rn k μ (.ifCond .ne t :: cs) ls (.int x :: st) h = if x = 0 then rn k μ cs ls st h else rn k μ (tgt k t) ls st h := by
  rw [rn_fix]
  show KK rn k μ (if x = 0 then _ else _) = _
  split
  · rfl
  · rfl
theorem e_if_lt (t : Int) (x : Int32) : rn k μ (.ifCond .lt t :: cs) ls (.int x :: st) h = if x < 0 then rn k μ (tgt k t) ls st h else rn k μ cs ls st h := by
  rw [rn_fix]
  show KK rn k μ (if x < 0 then _ else _) = _
  split
  · rfl
  · rfl
theorem e_if_ge (t : Int) (x : Int32) : rn k μ (.ifCond .ge t :: cs) ls (.int x :: st) h = if 0 ≤ x then rn k μ (tgt k t) ls st h else rn k μ cs ls st h := by
  rw [rn_fix]
  show KK rn k μ (if 0 ≤ x then _ else _) = _
  split
  · rfl
  · rfl
theorem e_if_gt (t : Int) (x : Int32) : rn k μ (.ifCond .gt t :: cs) ls (.int x :: st) h = if 0 < x then rn k μ (tgt k t) ls st h else rn k μ cs ls st h := by
  rw [rn_fix]
  show KK rn k μ (if 0 < x then _ else _) = _
  split
  · rfl
  · rfl
theorem e_if_le (t : Int) (x : Int32) : rn k μ (.ifCond .le t :: cs) ls (.int x :: st) h = if x ≤ 0 then rn k μ (tgt k t) ls st h else rn k μ cs ls st h := by
  rw [rn_fix]
  show KK rn k μ (if x ≤ 0 then _ else _) = _
  split
  · rfl
  · rfl
theorem e_ic_eq (t : Int) (x y : Int32) : rn k μ (.if_icmp .eq t :: cs) ls (.int y :: .int x :: st) h = if x = y then rn k μ (tgt k t) ls st h else rn k μ cs ls st h := by
  rw [rn_fix]
  show KK rn k μ (if x = y then _ else _) = _
  split
  · rfl
  · rfl
theorem e_ic_ne (t : Int) (x y : Int32) : rn k μ (.if_icmp .ne t :: cs) ls (.int y :: .int x :: st) h = if x = y then rn k μ cs ls st h else rn k μ (tgt k t) ls st h := by
  rw [rn_fix]
  show KK rn k μ (if x = y then _ else _) = _
  split
  · rfl
  · rfl
theorem e_ic_lt (t : Int) (x y : Int32) : rn k μ (.if_icmp .lt t :: cs) ls (.int y :: .int x :: st) h = if x < y then rn k μ (tgt k t) ls st h else rn k μ cs ls st h := by
  rw [rn_fix]
  show KK rn k μ (if x < y then _ else _) = _
  split
  · rfl
  · rfl
theorem e_ic_ge (t : Int) (x y : Int32) : rn k μ (.if_icmp .ge t :: cs) ls (.int y :: .int x :: st) h = if y ≤ x then rn k μ (tgt k t) ls st h else rn k μ cs ls st h := by
  rw [rn_fix]
  show KK rn k μ (if y ≤ x then _ else _) = _
  split
  · rfl
  · rfl
theorem e_ic_gt (t : Int) (x y : Int32) : rn k μ (.if_icmp .gt t :: cs) ls (.int y :: .int x :: st) h = if y < x then rn k μ (tgt k t) ls st h else rn k μ cs ls st h := by
  rw [rn_fix]
  show KK rn k μ (if y < x then _ else _) = _
  split
  · rfl
  · rfl
theorem e_ic_le (t : Int) (x y : Int32) : rn k μ (.if_icmp .le t :: cs) ls (.int y :: .int x :: st) h = if x ≤ y then rn k μ (tgt k t) ls st h else rn k μ cs ls st h := by
  rw [rn_fix]
  show KK rn k μ (if x ≤ y then _ else _) = _
  split
  · rfl
  · rfl
theorem e_goto (t : Int) : rn k μ (.goto t :: cs) ls st h = rn k μ (tgt k t) ls st h := by
  rw [rn_fix]; rfl
theorem e_gotow (t : Int) : rn k μ (.goto_w t :: cs) ls st h = rn k μ (tgt k t) ls st h := by
  rw [rn_fix]; rfl
theorem e_ifnn_r (t : Int) (x : Nat) : rn k μ (.ifnonnull t :: cs) ls (.ref x :: st) h = rn k μ (tgt k t) ls st h := by
  rw [rn_fix]; rfl
theorem e_ifnn_n (t : Int) : rn k μ (.ifnonnull t :: cs) ls (.null :: st) h = rn k μ cs ls st h := by
  rw [rn_fix]; rfl
theorem e_iaload (i : Int32) (a : Nat) : (kd h a = 20) → (inBd i (ln h a) = true) → rn k μ (.iaload :: cs) ls (.int i :: .ref a :: st) h = rn k μ cs ls (.int (gI h a i.toNatClampNeg) :: st) h := by
  intro h1 h2; rw [rn_fix]; simp only [stp, ali]; rw [if_pos ⟨h1, h2⟩]; rfl
theorem e_saload (i : Int32) (a : Nat) : (kd h a = 22) → (inBd i (ln h a) = true) → rn k μ (.saload :: cs) ls (.int i :: .ref a :: st) h = rn k μ cs ls (.int (gI h a i.toNatClampNeg) :: st) h := by
  intro h1 h2; rw [rn_fix]; simp only [stp, ali]; rw [if_pos ⟨h1, h2⟩]; rfl
theorem e_baload_b (i : Int32) (a : Nat) : (kd h a = 23) → (inBd i (ln h a) = true) → rn k μ (.baload :: cs) ls (.int i :: .ref a :: st) h = rn k μ cs ls (.int (gI h a i.toNatClampNeg) :: st) h := by
  intro h1 h2; rw [rn_fix]; simp only [stp, alb]; rw [if_pos ⟨Or.inl h1, h2⟩]; rfl
theorem e_baload_z (i : Int32) (a : Nat) : (kd h a = 24) → (inBd i (ln h a) = true) → rn k μ (.baload :: cs) ls (.int i :: .ref a :: st) h = rn k μ cs ls (.int (gI h a i.toNatClampNeg) :: st) h := by
  intro h1 h2; rw [rn_fix]; simp only [stp, alb]; rw [if_pos ⟨Or.inr h1, h2⟩]; rfl
theorem e_laload (i : Int32) (a : Nat) : (kd h a = 21) → (inBd i (ln h a) = true) → rn k μ (.laload :: cs) ls (.int i :: .ref a :: st) h = rn k μ cs ls (.long (gL h a i.toNatClampNeg) :: st) h := by
  intro h1 h2; rw [rn_fix]; simp only [stp, all_]; rw [if_pos ⟨h1, h2⟩]; rfl
theorem e_iastore (x i : Int32) (a : Nat) : (2 ≤ a) → (kd h a = 20) → (inBd i (ln h a) = true) → rn k μ (.iastore :: cs) ls (.int x :: .int i :: .ref a :: st) h = rn k μ cs ls st (sI h a i.toNatClampNeg x) := by
  intro h0 h1 h2; rw [rn_fix]; simp only [stp, asi]; rw [if_pos ⟨h0, h1, h2⟩]; rfl
theorem e_sastore (x i : Int32) (a : Nat) : (2 ≤ a) → (kd h a = 22) → (inBd i (ln h a) = true) → rn k μ (.sastore :: cs) ls (.int x :: .int i :: .ref a :: st) h = rn k μ cs ls st (sI h a i.toNatClampNeg (x.toInt16.toInt32)) := by
  intro h0 h1 h2; rw [rn_fix]; simp only [stp, ass]; rw [if_pos ⟨h0, h1, h2⟩]; rfl
theorem e_bastore_b (x i : Int32) (a : Nat) : (2 ≤ a) → (kd h a = 23) → (inBd i (ln h a) = true) → rn k μ (.bastore :: cs) ls (.int x :: .int i :: .ref a :: st) h = rn k μ cs ls st (sI h a i.toNatClampNeg (x.toInt8.toInt32)) := by
  intro h0 h1 h2; rw [rn_fix]; simp only [stp, asb]; rw [if_pos ⟨h0, h1, h2⟩]; rfl
theorem e_bastore_z (x i : Int32) (a : Nat) : (2 ≤ a) → (kd h a = 24) → (inBd i (ln h a) = true) → rn k μ (.bastore :: cs) ls (.int x :: .int i :: .ref a :: st) h = rn k μ cs ls st (sI h a i.toNatClampNeg (x &&& 1)) := by
  intro h0 h1 h2; rw [rn_fix]; simp only [stp, asb]; rw [if_neg (by omega), if_pos ⟨h0, h1, h2⟩]; rfl
theorem e_lastore (x : Int64) (i : Int32) (a : Nat) : (2 ≤ a) → (kd h a = 21) → (inBd i (ln h a) = true) → rn k μ (.lastore :: cs) ls (.long x :: .int i :: .ref a :: st) h = rn k μ cs ls st (sL h a i.toNatClampNeg x) := by
  intro h0 h1 h2; rw [rn_fix]; simp only [stp, asl]; rw [if_pos ⟨h0, h1, h2⟩]; rfl
theorem e_alen (a : Nat) : (20 ≤ kd h a ∧ kd h a ≤ 24) → rn k μ (.arraylength :: cs) ls (.ref a :: st) h = rn k μ cs ls (.int (nI (ln h a)) :: st) h := by
  intro h1; rw [rn_fix]; simp only [stp, aln]; rw [if_pos h1]; rfl
theorem e_getstatic (f : Nat) : rn k μ (.getstatic f :: cs) ls st h = rn k μ cs ls (.ref 1 :: st) h := by
  rw [rn_fix]; rfl
theorem e_objinit (f a : Nat) : (st.length ≤ 4) → rn k μ (.invokespecial f :: cs) ls (.ref a :: st) h = rn k μ cs ls st h := by
  intro h1; rw [rn_fix]; simp only [stp]; rw [if_pos h1]; rfl
theorem e_new_0 : rn k μ (.new 0 :: cs) ls st h = rn k μ cs ls (.ref h.1.length :: st) (nC h 0 8) := by
  rw [rn_fix]; rfl
theorem e_new_1 : rn k μ (.new 1 :: cs) ls st h = rn k μ cs ls (.ref h.1.length :: st) (nC h 1 6) := by
  rw [rn_fix]; rfl
theorem e_new_2 : rn k μ (.new 2 :: cs) ls st h = rn k μ cs ls (.ref h.1.length :: st) (nC h 2 7) := by
  rw [rn_fix]; rfl
theorem e_new_3 : rn k μ (.new 3 :: cs) ls st h = rn k μ cs ls (.ref h.1.length :: st) (nC h 3 2) := by
  rw [rn_fix]; rfl
theorem e_new_4 : rn k μ (.new 4 :: cs) ls st h = rn k μ cs ls (.ref h.1.length :: st) (nC h 4 2) := by
  rw [rn_fix]; rfl
theorem e_new_5 : rn k μ (.new 5 :: cs) ls st h = rn k μ cs ls (.ref h.1.length :: st) (nC h 5 18) := by
  rw [rn_fix]; rfl
theorem e_new_6 : rn k μ (.new 6 :: cs) ls st h = rn k μ cs ls (.ref h.1.length :: st) (nC h 6 6) := by
  rw [rn_fix]; rfl
theorem e_new_7 : rn k μ (.new 7 :: cs) ls st h = rn k μ cs ls (.ref h.1.length :: st) (nC h 7 7) := by
  rw [rn_fix]; rfl
theorem e_new_8 : rn k μ (.new 8 :: cs) ls st h = rn k μ cs ls (.ref h.1.length :: st) (nC h 8 6) := by
  rw [rn_fix]; rfl
theorem e_new_9 : rn k μ (.new 9 :: cs) ls st h = rn k μ cs ls (.ref h.1.length :: st) (nC h 9 7) := by
  rw [rn_fix]; rfl
theorem e_new_10 : rn k μ (.new 10 :: cs) ls st h = rn k μ cs ls (.ref h.1.length :: st) (nC h 10 3) := by
  rw [rn_fix]; rfl
theorem e_new_11 : rn k μ (.new 11 :: cs) ls st h = rn k μ cs ls (.ref h.1.length :: st) (nC h 11 10) := by
  rw [rn_fix]; rfl
theorem e_new_12 : rn k μ (.new 12 :: cs) ls st h = rn k μ cs ls (.ref h.1.length :: st) (nC h 12 88) := by
  rw [rn_fix]; rfl
theorem e_newarr_int (n : Int32) : (¬ n < 0) → (n.toNatClampNeg ≤ 65536) → rn k μ (.newarray .int :: cs) ls (.int n :: st) h = rn k μ cs ls (.ref h.1.length :: st) (nC h 20 n.toNatClampNeg) := by
  intro h1 h2; rw [rn_fix]; simp only [stp, nwa]; rw [if_pos ⟨by decide, h1, h2⟩]; rfl
theorem e_newarr_long (n : Int32) : (¬ n < 0) → (n.toNatClampNeg ≤ 65536) → rn k μ (.newarray .long :: cs) ls (.int n :: st) h = rn k μ cs ls (.ref h.1.length :: st) (nC h 21 n.toNatClampNeg) := by
  intro h1 h2; rw [rn_fix]; simp only [stp, nwa]; rw [if_pos ⟨by decide, h1, h2⟩]; rfl
theorem e_newarr_short (n : Int32) : (¬ n < 0) → (n.toNatClampNeg ≤ 65536) → rn k μ (.newarray .short :: cs) ls (.int n :: st) h = rn k μ cs ls (.ref h.1.length :: st) (nC h 22 n.toNatClampNeg) := by
  intro h1 h2; rw [rn_fix]; simp only [stp, nwa]; rw [if_pos ⟨by decide, h1, h2⟩]; rfl
theorem e_newarr_byte (n : Int32) : (¬ n < 0) → (n.toNatClampNeg ≤ 65536) → rn k μ (.newarray .byte :: cs) ls (.int n :: st) h = rn k μ cs ls (.ref h.1.length :: st) (nC h 23 n.toNatClampNeg) := by
  intro h1 h2; rw [rn_fix]; simp only [stp, nwa]; rw [if_pos ⟨by decide, h1, h2⟩]; rfl
theorem e_newarr_boolean (n : Int32) : (¬ n < 0) → (n.toNatClampNeg ≤ 65536) → rn k μ (.newarray .boolean :: cs) ls (.int n :: st) h = rn k μ cs ls (.ref h.1.length :: st) (nC h 24 n.toNatClampNeg) := by
  intro h1 h2; rw [rn_fix]; simp only [stp, nwa]; rw [if_pos ⟨by decide, h1, h2⟩]; rfl
theorem e_copy (f a : Nat) (n dp sp : Int32) : (2 ≤ a) → (kd h a = 20) → (st.length ≤ 4) → (¬ sp < 0) → (¬ dp < 0) → (¬ n < 0) → (sp.toNatClampNeg + n.toNatClampNeg ≤ ln h a) → (dp.toNatClampNeg + n.toNatClampNeg ≤ ln h a) → rn k μ (.invokestatic f :: cs) ls (.int n :: .int dp :: .ref a :: .int sp :: .ref a :: st) h = rn k μ cs ls st (cpI h a sp.toNatClampNeg a dp.toNatClampNeg n.toNatClampNeg) := by
  intro h0 h1 h2 h3 h4 h5 h6 h7; rw [rn_fix]; simp only [stp, acp]; rw [if_pos ⟨⟨h0, trivial, h1, h2⟩, h3, h4, h5, h6, h7⟩]; rfl
theorem e_call_0 (k' : Nat) (hs : st.length ≤ 4) : rn k μ (.invokeinterface k' 0 :: cs) ls st h = (cal k' [] μ h).bind fun r => rn k μ cs ls (psh r.1 st) r.2 := by
  exact rn_cal k μ k' 0 cs ls st h (by simp) (by simpa using hs)
theorem e_call_1 (k' : Nat) (v0 : Value) (hs : st.length ≤ 4) : rn k μ (.invokeinterface k' 1 :: cs) ls (v0 :: st) h = (cal k' [v0] μ h).bind fun r => rn k μ cs ls (psh r.1 st) r.2 := by
  exact rn_cal k μ k' 1 cs ls (v0 :: st) h (by simp) (by simpa using hs)
theorem e_call_2 (k' : Nat) (v0 v1 : Value) (hs : st.length ≤ 4) : rn k μ (.invokeinterface k' 2 :: cs) ls (v1 :: v0 :: st) h = (cal k' [v0, v1] μ h).bind fun r => rn k μ cs ls (psh r.1 st) r.2 := by
  exact rn_cal k μ k' 2 cs ls (v1 :: v0 :: st) h (by simp) (by simpa using hs)
theorem e_call_3 (k' : Nat) (v0 v1 v2 : Value) (hs : st.length ≤ 4) : rn k μ (.invokeinterface k' 3 :: cs) ls (v2 :: v1 :: v0 :: st) h = (cal k' [v0, v1, v2] μ h).bind fun r => rn k μ cs ls (psh r.1 st) r.2 := by
  exact rn_cal k μ k' 3 cs ls (v2 :: v1 :: v0 :: st) h (by simp) (by simpa using hs)
theorem e_call_4 (k' : Nat) (v0 v1 v2 v3 : Value) (hs : st.length ≤ 4) : rn k μ (.invokeinterface k' 4 :: cs) ls (v3 :: v2 :: v1 :: v0 :: st) h = (cal k' [v0, v1, v2, v3] μ h).bind fun r => rn k μ cs ls (psh r.1 st) r.2 := by
  exact rn_cal k μ k' 4 cs ls (v3 :: v2 :: v1 :: v0 :: st) h (by simp) (by simpa using hs)
theorem e_call_5 (k' : Nat) (v0 v1 v2 v3 v4 : Value) (hs : st.length ≤ 4) : rn k μ (.invokeinterface k' 5 :: cs) ls (v4 :: v3 :: v2 :: v1 :: v0 :: st) h = (cal k' [v0, v1, v2, v3, v4] μ h).bind fun r => rn k μ cs ls (psh r.1 st) r.2 := by
  exact rn_cal k μ k' 5 cs ls (v4 :: v3 :: v2 :: v1 :: v0 :: st) h (by simp) (by simpa using hs)
theorem e_call_6 (k' : Nat) (v0 v1 v2 v3 v4 v5 : Value) (hs : st.length ≤ 4) : rn k μ (.invokeinterface k' 6 :: cs) ls (v5 :: v4 :: v3 :: v2 :: v1 :: v0 :: st) h = (cal k' [v0, v1, v2, v3, v4, v5] μ h).bind fun r => rn k μ cs ls (psh r.1 st) r.2 := by
  exact rn_cal k μ k' 6 cs ls (v5 :: v4 :: v3 :: v2 :: v1 :: v0 :: st) h (by simp) (by simpa using hs)
theorem e_call_7 (k' : Nat) (v0 v1 v2 v3 v4 v5 v6 : Value) (hs : st.length ≤ 4) : rn k μ (.invokeinterface k' 7 :: cs) ls (v6 :: v5 :: v4 :: v3 :: v2 :: v1 :: v0 :: st) h = (cal k' [v0, v1, v2, v3, v4, v5, v6] μ h).bind fun r => rn k μ cs ls (psh r.1 st) r.2 := by
  exact rn_cal k μ k' 7 cs ls (v6 :: v5 :: v4 :: v3 :: v2 :: v1 :: v0 :: st) h (by simp) (by simpa using hs)
theorem psh_s (v : Value) : psh (some v) st = v :: st := rfl
theorem psh_n : psh none st = st := rfl
theorem clr_i (x : Int32) : clr (some (.int x)) = some (.int x) := rfl
theorem clr_l (x : Int64) : clr (some (.long x)) = none := rfl
theorem clr_a (x : Nat) : clr (some (.ref x)) = some (.ref x) := rfl
theorem clr_n : clr none = none := rfl
theorem e_tsw (d lo hi : Int) (os : Array Int) (x : Int32) : rn k μ (.tableswitch d lo hi os :: cs) ls (.int x :: st) h = if x.toInt < lo ∨ hi < x.toInt then rn k μ (tgt k d) ls st h else match os[(x.toInt - lo).toNat]? with
    | some t => rn k μ (tgt k t) ls st h
    | none => none := by
  rw [rn_fix]
  simp only [stp, tsw]
  split
  · rfl
  · split
    · rename_i t ht; rw [ht]; rfl
    · rename_i ht; rw [ht]; rfl
theorem e_lsw (d : Int) (ps : Array (Int × Int)) (x : Int32) : rn k μ (.lookupswitch d ps :: cs) ls (.int x :: st) h = rn k μ (tgt k (lkp ps.toList d x.toInt)) ls st h := by
  rw [rn_fix]; rfl
end EQN
section EQF
variable (k μ : Nat) (cs : List IR) (ls : LV) (st : List Value) (h : MH)
theorem G_0 (a : Nat) (h1 : kd h a = 0) (h2 : 2 ≤ a) : rn k μ (.getfield 0 :: cs) ls (.ref a :: st) h = rn k μ cs ls (gR h a 0 :: st) h := by
  rw [rn_fix]; simp only [stp, gtf]; rw [if_pos ⟨h1, by decide, h2⟩]; rfl
theorem G_1 (a : Nat) (h1 : kd h a = 0) (h2 : 2 ≤ a) : rn k μ (.getfield 1 :: cs) ls (.ref a :: st) h = rn k μ cs ls (.int (gI h a 1) :: st) h := by
  rw [rn_fix]; simp only [stp, gtf]; rw [if_pos ⟨h1, by decide, h2⟩]; rfl
theorem G_2 (a : Nat) (h1 : kd h a = 0) (h2 : 2 ≤ a) : rn k μ (.getfield 2 :: cs) ls (.ref a :: st) h = rn k μ cs ls (gR h a 2 :: st) h := by
  rw [rn_fix]; simp only [stp, gtf]; rw [if_pos ⟨h1, by decide, h2⟩]; rfl
theorem G_3 (a : Nat) (h1 : kd h a = 0) (h2 : 2 ≤ a) : rn k μ (.getfield 3 :: cs) ls (.ref a :: st) h = rn k μ cs ls (gR h a 3 :: st) h := by
  rw [rn_fix]; simp only [stp, gtf]; rw [if_pos ⟨h1, by decide, h2⟩]; rfl
theorem G_4 (a : Nat) (h1 : kd h a = 0) (h2 : 2 ≤ a) : rn k μ (.getfield 4 :: cs) ls (.ref a :: st) h = rn k μ cs ls (gR h a 4 :: st) h := by
  rw [rn_fix]; simp only [stp, gtf]; rw [if_pos ⟨h1, by decide, h2⟩]; rfl
theorem G_5 (a : Nat) (h1 : kd h a = 0) (h2 : 2 ≤ a) : rn k μ (.getfield 5 :: cs) ls (.ref a :: st) h = rn k μ cs ls (gR h a 5 :: st) h := by
  rw [rn_fix]; simp only [stp, gtf]; rw [if_pos ⟨h1, by decide, h2⟩]; rfl
theorem G_6 (a : Nat) (h1 : kd h a = 0) (h2 : 2 ≤ a) : rn k μ (.getfield 6 :: cs) ls (.ref a :: st) h = rn k μ cs ls (gR h a 6 :: st) h := by
  rw [rn_fix]; simp only [stp, gtf]; rw [if_pos ⟨h1, by decide, h2⟩]; rfl
theorem G_7 (a : Nat) (h1 : kd h a = 0) (h2 : 2 ≤ a) : rn k μ (.getfield 7 :: cs) ls (.ref a :: st) h = rn k μ cs ls (gR h a 7 :: st) h := by
  rw [rn_fix]; simp only [stp, gtf]; rw [if_pos ⟨h1, by decide, h2⟩]; rfl
theorem G_100 (a : Nat) (h1 : kd h a = 1) (h2 : 2 ≤ a) : rn k μ (.getfield 100 :: cs) ls (.ref a :: st) h = rn k μ cs ls (gR h a 0 :: st) h := by
  rw [rn_fix]; simp only [stp, gtf]; rw [if_pos ⟨h1, by decide, h2⟩]; rfl
theorem G_101 (a : Nat) (h1 : kd h a = 1) (h2 : 2 ≤ a) : rn k μ (.getfield 101 :: cs) ls (.ref a :: st) h = rn k μ cs ls (.int (gI h a 1) :: st) h := by
  rw [rn_fix]; simp only [stp, gtf]; rw [if_pos ⟨h1, by decide, h2⟩]; rfl
theorem G_102 (a : Nat) (h1 : kd h a = 1) (h2 : 2 ≤ a) : rn k μ (.getfield 102 :: cs) ls (.ref a :: st) h = rn k μ cs ls (gR h a 2 :: st) h := by
  rw [rn_fix]; simp only [stp, gtf]; rw [if_pos ⟨h1, by decide, h2⟩]; rfl
theorem G_103 (a : Nat) (h1 : kd h a = 1) (h2 : 2 ≤ a) : rn k μ (.getfield 103 :: cs) ls (.ref a :: st) h = rn k μ cs ls (gR h a 3 :: st) h := by
  rw [rn_fix]; simp only [stp, gtf]; rw [if_pos ⟨h1, by decide, h2⟩]; rfl
theorem G_104 (a : Nat) (h1 : kd h a = 1) (h2 : 2 ≤ a) : rn k μ (.getfield 104 :: cs) ls (.ref a :: st) h = rn k μ cs ls (gR h a 4 :: st) h := by
  rw [rn_fix]; simp only [stp, gtf]; rw [if_pos ⟨h1, by decide, h2⟩]; rfl
theorem G_105 (a : Nat) (h1 : kd h a = 1) (h2 : 2 ≤ a) : rn k μ (.getfield 105 :: cs) ls (.ref a :: st) h = rn k μ cs ls (.int (gI h a 5) :: st) h := by
  rw [rn_fix]; simp only [stp, gtf]; rw [if_pos ⟨h1, by decide, h2⟩]; rfl
theorem G_200 (a : Nat) (h1 : kd h a = 2) (h2 : 2 ≤ a) : rn k μ (.getfield 200 :: cs) ls (.ref a :: st) h = rn k μ cs ls (gR h a 0 :: st) h := by
  rw [rn_fix]; simp only [stp, gtf]; rw [if_pos ⟨h1, by decide, h2⟩]; rfl
theorem G_201 (a : Nat) (h1 : kd h a = 2) (h2 : 2 ≤ a) : rn k μ (.getfield 201 :: cs) ls (.ref a :: st) h = rn k μ cs ls (gR h a 1 :: st) h := by
  rw [rn_fix]; simp only [stp, gtf]; rw [if_pos ⟨h1, by decide, h2⟩]; rfl
theorem G_202 (a : Nat) (h1 : kd h a = 2) (h2 : 2 ≤ a) : rn k μ (.getfield 202 :: cs) ls (.ref a :: st) h = rn k μ cs ls (gR h a 2 :: st) h := by
  rw [rn_fix]; simp only [stp, gtf]; rw [if_pos ⟨h1, by decide, h2⟩]; rfl
theorem G_203 (a : Nat) (h1 : kd h a = 2) (h2 : 2 ≤ a) : rn k μ (.getfield 203 :: cs) ls (.ref a :: st) h = rn k μ cs ls (gR h a 3 :: st) h := by
  rw [rn_fix]; simp only [stp, gtf]; rw [if_pos ⟨h1, by decide, h2⟩]; rfl
theorem G_204 (a : Nat) (h1 : kd h a = 2) (h2 : 2 ≤ a) : rn k μ (.getfield 204 :: cs) ls (.ref a :: st) h = rn k μ cs ls (gR h a 4 :: st) h := by
  rw [rn_fix]; simp only [stp, gtf]; rw [if_pos ⟨h1, by decide, h2⟩]; rfl
theorem G_205 (a : Nat) (h1 : kd h a = 2) (h2 : 2 ≤ a) : rn k μ (.getfield 205 :: cs) ls (.ref a :: st) h = rn k μ cs ls (.int (gI h a 5) :: st) h := by
  rw [rn_fix]; simp only [stp, gtf]; rw [if_pos ⟨h1, by decide, h2⟩]; rfl
theorem G_206 (a : Nat) (h1 : kd h a = 2) (h2 : 2 ≤ a) : rn k μ (.getfield 206 :: cs) ls (.ref a :: st) h = rn k μ cs ls (.int (gI h a 6) :: st) h := by
  rw [rn_fix]; simp only [stp, gtf]; rw [if_pos ⟨h1, by decide, h2⟩]; rfl
theorem G_300 (a : Nat) (h1 : kd h a = 3) (h2 : 2 ≤ a) : rn k μ (.getfield 300 :: cs) ls (.ref a :: st) h = rn k μ cs ls (gR h a 0 :: st) h := by
  rw [rn_fix]; simp only [stp, gtf]; rw [if_pos ⟨h1, by decide, h2⟩]; rfl
theorem G_301 (a : Nat) (h1 : kd h a = 3) (h2 : 2 ≤ a) : rn k μ (.getfield 301 :: cs) ls (.ref a :: st) h = rn k μ cs ls (.int (gI h a 1) :: st) h := by
  rw [rn_fix]; simp only [stp, gtf]; rw [if_pos ⟨h1, by decide, h2⟩]; rfl
theorem G_400 (a : Nat) (h1 : kd h a = 4) (h2 : 2 ≤ a) : rn k μ (.getfield 400 :: cs) ls (.ref a :: st) h = rn k μ cs ls (gR h a 0 :: st) h := by
  rw [rn_fix]; simp only [stp, gtf]; rw [if_pos ⟨h1, by decide, h2⟩]; rfl
theorem G_401 (a : Nat) (h1 : kd h a = 4) (h2 : 2 ≤ a) : rn k μ (.getfield 401 :: cs) ls (.ref a :: st) h = rn k μ cs ls (.int (gI h a 1) :: st) h := by
  rw [rn_fix]; simp only [stp, gtf]; rw [if_pos ⟨h1, by decide, h2⟩]; rfl
theorem G_500 (a : Nat) (h1 : kd h a = 5) (h2 : 2 ≤ a) : rn k μ (.getfield 500 :: cs) ls (.ref a :: st) h = rn k μ cs ls (gR h a 0 :: st) h := by
  rw [rn_fix]; simp only [stp, gtf]; rw [if_pos ⟨h1, by decide, h2⟩]; rfl
theorem G_501 (a : Nat) (h1 : kd h a = 5) (h2 : 2 ≤ a) : rn k μ (.getfield 501 :: cs) ls (.ref a :: st) h = rn k μ cs ls (gR h a 1 :: st) h := by
  rw [rn_fix]; simp only [stp, gtf]; rw [if_pos ⟨h1, by decide, h2⟩]; rfl
theorem G_502 (a : Nat) (h1 : kd h a = 5) (h2 : 2 ≤ a) : rn k μ (.getfield 502 :: cs) ls (.ref a :: st) h = rn k μ cs ls (gR h a 2 :: st) h := by
  rw [rn_fix]; simp only [stp, gtf]; rw [if_pos ⟨h1, by decide, h2⟩]; rfl
theorem G_503 (a : Nat) (h1 : kd h a = 5) (h2 : 2 ≤ a) : rn k μ (.getfield 503 :: cs) ls (.ref a :: st) h = rn k μ cs ls (gR h a 3 :: st) h := by
  rw [rn_fix]; simp only [stp, gtf]; rw [if_pos ⟨h1, by decide, h2⟩]; rfl
theorem G_504 (a : Nat) (h1 : kd h a = 5) (h2 : 2 ≤ a) : rn k μ (.getfield 504 :: cs) ls (.ref a :: st) h = rn k μ cs ls (gR h a 4 :: st) h := by
  rw [rn_fix]; simp only [stp, gtf]; rw [if_pos ⟨h1, by decide, h2⟩]; rfl
theorem G_505 (a : Nat) (h1 : kd h a = 5) (h2 : 2 ≤ a) : rn k μ (.getfield 505 :: cs) ls (.ref a :: st) h = rn k μ cs ls (gR h a 5 :: st) h := by
  rw [rn_fix]; simp only [stp, gtf]; rw [if_pos ⟨h1, by decide, h2⟩]; rfl
theorem G_506 (a : Nat) (h1 : kd h a = 5) (h2 : 2 ≤ a) : rn k μ (.getfield 506 :: cs) ls (.ref a :: st) h = rn k μ cs ls (gR h a 6 :: st) h := by
  rw [rn_fix]; simp only [stp, gtf]; rw [if_pos ⟨h1, by decide, h2⟩]; rfl
theorem G_507 (a : Nat) (h1 : kd h a = 5) (h2 : 2 ≤ a) : rn k μ (.getfield 507 :: cs) ls (.ref a :: st) h = rn k μ cs ls (gR h a 7 :: st) h := by
  rw [rn_fix]; simp only [stp, gtf]; rw [if_pos ⟨h1, by decide, h2⟩]; rfl
theorem G_508 (a : Nat) (h1 : kd h a = 5) (h2 : 2 ≤ a) : rn k μ (.getfield 508 :: cs) ls (.ref a :: st) h = rn k μ cs ls (gR h a 8 :: st) h := by
  rw [rn_fix]; simp only [stp, gtf]; rw [if_pos ⟨h1, by decide, h2⟩]; rfl
theorem G_509 (a : Nat) (h1 : kd h a = 5) (h2 : 2 ≤ a) : rn k μ (.getfield 509 :: cs) ls (.ref a :: st) h = rn k μ cs ls (gR h a 9 :: st) h := by
  rw [rn_fix]; simp only [stp, gtf]; rw [if_pos ⟨h1, by decide, h2⟩]; rfl
theorem G_510 (a : Nat) (h1 : kd h a = 5) (h2 : 2 ≤ a) : rn k μ (.getfield 510 :: cs) ls (.ref a :: st) h = rn k μ cs ls (gR h a 10 :: st) h := by
  rw [rn_fix]; simp only [stp, gtf]; rw [if_pos ⟨h1, by decide, h2⟩]; rfl
theorem G_511 (a : Nat) (h1 : kd h a = 5) (h2 : 2 ≤ a) : rn k μ (.getfield 511 :: cs) ls (.ref a :: st) h = rn k μ cs ls (gR h a 11 :: st) h := by
  rw [rn_fix]; simp only [stp, gtf]; rw [if_pos ⟨h1, by decide, h2⟩]; rfl
theorem G_512 (a : Nat) (h1 : kd h a = 5) (h2 : 2 ≤ a) : rn k μ (.getfield 512 :: cs) ls (.ref a :: st) h = rn k μ cs ls (.int (gI h a 12) :: st) h := by
  rw [rn_fix]; simp only [stp, gtf]; rw [if_pos ⟨h1, by decide, h2⟩]; rfl
theorem G_513 (a : Nat) (h1 : kd h a = 5) (h2 : 2 ≤ a) : rn k μ (.getfield 513 :: cs) ls (.ref a :: st) h = rn k μ cs ls (.int (gI h a 13) :: st) h := by
  rw [rn_fix]; simp only [stp, gtf]; rw [if_pos ⟨h1, by decide, h2⟩]; rfl
theorem G_514 (a : Nat) (h1 : kd h a = 5) (h2 : 2 ≤ a) : rn k μ (.getfield 514 :: cs) ls (.ref a :: st) h = rn k μ cs ls (.int (gI h a 14) :: st) h := by
  rw [rn_fix]; simp only [stp, gtf]; rw [if_pos ⟨h1, by decide, h2⟩]; rfl
theorem G_515 (a : Nat) (h1 : kd h a = 5) (h2 : 2 ≤ a) : rn k μ (.getfield 515 :: cs) ls (.ref a :: st) h = rn k μ cs ls (.int (gI h a 15) :: st) h := by
  rw [rn_fix]; simp only [stp, gtf]; rw [if_pos ⟨h1, by decide, h2⟩]; rfl
theorem G_516 (a : Nat) (h1 : kd h a = 5) (h2 : 2 ≤ a) : rn k μ (.getfield 516 :: cs) ls (.ref a :: st) h = rn k μ cs ls (.int (gI h a 16) :: st) h := by
  rw [rn_fix]; simp only [stp, gtf]; rw [if_pos ⟨h1, by decide, h2⟩]; rfl
theorem G_517 (a : Nat) (h1 : kd h a = 5) (h2 : 2 ≤ a) : rn k μ (.getfield 517 :: cs) ls (.ref a :: st) h = rn k μ cs ls (.int (gI h a 17) :: st) h := by
  rw [rn_fix]; simp only [stp, gtf]; rw [if_pos ⟨h1, by decide, h2⟩]; rfl
theorem G_600 (a : Nat) (h1 : kd h a = 6) (h2 : 2 ≤ a) : rn k μ (.getfield 600 :: cs) ls (.ref a :: st) h = rn k μ cs ls (gR h a 0 :: st) h := by
  rw [rn_fix]; simp only [stp, gtf]; rw [if_pos ⟨h1, by decide, h2⟩]; rfl
theorem G_601 (a : Nat) (h1 : kd h a = 6) (h2 : 2 ≤ a) : rn k μ (.getfield 601 :: cs) ls (.ref a :: st) h = rn k μ cs ls (gR h a 1 :: st) h := by
  rw [rn_fix]; simp only [stp, gtf]; rw [if_pos ⟨h1, by decide, h2⟩]; rfl
theorem G_602 (a : Nat) (h1 : kd h a = 6) (h2 : 2 ≤ a) : rn k μ (.getfield 602 :: cs) ls (.ref a :: st) h = rn k μ cs ls (.int (gI h a 2) :: st) h := by
  rw [rn_fix]; simp only [stp, gtf]; rw [if_pos ⟨h1, by decide, h2⟩]; rfl
theorem G_603 (a : Nat) (h1 : kd h a = 6) (h2 : 2 ≤ a) : rn k μ (.getfield 603 :: cs) ls (.ref a :: st) h = rn k μ cs ls (.int (gI h a 3) :: st) h := by
  rw [rn_fix]; simp only [stp, gtf]; rw [if_pos ⟨h1, by decide, h2⟩]; rfl
theorem G_604 (a : Nat) (h1 : kd h a = 6) (h2 : 2 ≤ a) : rn k μ (.getfield 604 :: cs) ls (.ref a :: st) h = rn k μ cs ls (.int (gI h a 4) :: st) h := by
  rw [rn_fix]; simp only [stp, gtf]; rw [if_pos ⟨h1, by decide, h2⟩]; rfl
theorem G_605 (a : Nat) (h1 : kd h a = 6) (h2 : 2 ≤ a) : rn k μ (.getfield 605 :: cs) ls (.ref a :: st) h = rn k μ cs ls (.int (gI h a 5) :: st) h := by
  rw [rn_fix]; simp only [stp, gtf]; rw [if_pos ⟨h1, by decide, h2⟩]; rfl
theorem G_700 (a : Nat) (h1 : kd h a = 7) (h2 : 2 ≤ a) : rn k μ (.getfield 700 :: cs) ls (.ref a :: st) h = rn k μ cs ls (gR h a 0 :: st) h := by
  rw [rn_fix]; simp only [stp, gtf]; rw [if_pos ⟨h1, by decide, h2⟩]; rfl
theorem G_701 (a : Nat) (h1 : kd h a = 7) (h2 : 2 ≤ a) : rn k μ (.getfield 701 :: cs) ls (.ref a :: st) h = rn k μ cs ls (gR h a 1 :: st) h := by
  rw [rn_fix]; simp only [stp, gtf]; rw [if_pos ⟨h1, by decide, h2⟩]; rfl
theorem G_702 (a : Nat) (h1 : kd h a = 7) (h2 : 2 ≤ a) : rn k μ (.getfield 702 :: cs) ls (.ref a :: st) h = rn k μ cs ls (gR h a 2 :: st) h := by
  rw [rn_fix]; simp only [stp, gtf]; rw [if_pos ⟨h1, by decide, h2⟩]; rfl
theorem G_703 (a : Nat) (h1 : kd h a = 7) (h2 : 2 ≤ a) : rn k μ (.getfield 703 :: cs) ls (.ref a :: st) h = rn k μ cs ls (.int (gI h a 3) :: st) h := by
  rw [rn_fix]; simp only [stp, gtf]; rw [if_pos ⟨h1, by decide, h2⟩]; rfl
theorem G_704 (a : Nat) (h1 : kd h a = 7) (h2 : 2 ≤ a) : rn k μ (.getfield 704 :: cs) ls (.ref a :: st) h = rn k μ cs ls (.int (gI h a 4) :: st) h := by
  rw [rn_fix]; simp only [stp, gtf]; rw [if_pos ⟨h1, by decide, h2⟩]; rfl
theorem G_705 (a : Nat) (h1 : kd h a = 7) (h2 : 2 ≤ a) : rn k μ (.getfield 705 :: cs) ls (.ref a :: st) h = rn k μ cs ls (.int (gI h a 5) :: st) h := by
  rw [rn_fix]; simp only [stp, gtf]; rw [if_pos ⟨h1, by decide, h2⟩]; rfl
theorem G_706 (a : Nat) (h1 : kd h a = 7) (h2 : 2 ≤ a) : rn k μ (.getfield 706 :: cs) ls (.ref a :: st) h = rn k μ cs ls (.int (gI h a 6) :: st) h := by
  rw [rn_fix]; simp only [stp, gtf]; rw [if_pos ⟨h1, by decide, h2⟩]; rfl
theorem G_800 (a : Nat) (h1 : kd h a = 8) (h2 : 2 ≤ a) : rn k μ (.getfield 800 :: cs) ls (.ref a :: st) h = rn k μ cs ls (gR h a 0 :: st) h := by
  rw [rn_fix]; simp only [stp, gtf]; rw [if_pos ⟨h1, by decide, h2⟩]; rfl
theorem G_801 (a : Nat) (h1 : kd h a = 8) (h2 : 2 ≤ a) : rn k μ (.getfield 801 :: cs) ls (.ref a :: st) h = rn k μ cs ls (gR h a 1 :: st) h := by
  rw [rn_fix]; simp only [stp, gtf]; rw [if_pos ⟨h1, by decide, h2⟩]; rfl
theorem G_802 (a : Nat) (h1 : kd h a = 8) (h2 : 2 ≤ a) : rn k μ (.getfield 802 :: cs) ls (.ref a :: st) h = rn k μ cs ls (.int (gI h a 2) :: st) h := by
  rw [rn_fix]; simp only [stp, gtf]; rw [if_pos ⟨h1, by decide, h2⟩]; rfl
theorem G_803 (a : Nat) (h1 : kd h a = 8) (h2 : 2 ≤ a) : rn k μ (.getfield 803 :: cs) ls (.ref a :: st) h = rn k μ cs ls (.int (gI h a 3) :: st) h := by
  rw [rn_fix]; simp only [stp, gtf]; rw [if_pos ⟨h1, by decide, h2⟩]; rfl
theorem G_804 (a : Nat) (h1 : kd h a = 8) (h2 : 2 ≤ a) : rn k μ (.getfield 804 :: cs) ls (.ref a :: st) h = rn k μ cs ls (.int (gI h a 4) :: st) h := by
  rw [rn_fix]; simp only [stp, gtf]; rw [if_pos ⟨h1, by decide, h2⟩]; rfl
theorem G_805 (a : Nat) (h1 : kd h a = 8) (h2 : 2 ≤ a) : rn k μ (.getfield 805 :: cs) ls (.ref a :: st) h = rn k μ cs ls (.int (gI h a 5) :: st) h := by
  rw [rn_fix]; simp only [stp, gtf]; rw [if_pos ⟨h1, by decide, h2⟩]; rfl
theorem G_900 (a : Nat) (h1 : kd h a = 9) (h2 : 2 ≤ a) : rn k μ (.getfield 900 :: cs) ls (.ref a :: st) h = rn k μ cs ls (gR h a 0 :: st) h := by
  rw [rn_fix]; simp only [stp, gtf]; rw [if_pos ⟨h1, by decide, h2⟩]; rfl
theorem G_901 (a : Nat) (h1 : kd h a = 9) (h2 : 2 ≤ a) : rn k μ (.getfield 901 :: cs) ls (.ref a :: st) h = rn k μ cs ls (.int (gI h a 1) :: st) h := by
  rw [rn_fix]; simp only [stp, gtf]; rw [if_pos ⟨h1, by decide, h2⟩]; rfl
theorem G_902 (a : Nat) (h1 : kd h a = 9) (h2 : 2 ≤ a) : rn k μ (.getfield 902 :: cs) ls (.ref a :: st) h = rn k μ cs ls (.int (gI h a 2) :: st) h := by
  rw [rn_fix]; simp only [stp, gtf]; rw [if_pos ⟨h1, by decide, h2⟩]; rfl
theorem G_903 (a : Nat) (h1 : kd h a = 9) (h2 : 2 ≤ a) : rn k μ (.getfield 903 :: cs) ls (.ref a :: st) h = rn k μ cs ls (.int (gI h a 3) :: st) h := by
  rw [rn_fix]; simp only [stp, gtf]; rw [if_pos ⟨h1, by decide, h2⟩]; rfl
theorem G_904 (a : Nat) (h1 : kd h a = 9) (h2 : 2 ≤ a) : rn k μ (.getfield 904 :: cs) ls (.ref a :: st) h = rn k μ cs ls (.int (gI h a 4) :: st) h := by
  rw [rn_fix]; simp only [stp, gtf]; rw [if_pos ⟨h1, by decide, h2⟩]; rfl
theorem G_905 (a : Nat) (h1 : kd h a = 9) (h2 : 2 ≤ a) : rn k μ (.getfield 905 :: cs) ls (.ref a :: st) h = rn k μ cs ls (.long (gL h a 5) :: st) h := by
  rw [rn_fix]; simp only [stp, gtf]; rw [if_pos ⟨h1, by decide, h2⟩]; rfl
theorem G_906 (a : Nat) (h1 : kd h a = 9) (h2 : 2 ≤ a) : rn k μ (.getfield 906 :: cs) ls (.ref a :: st) h = rn k μ cs ls (.int (gI h a 6) :: st) h := by
  rw [rn_fix]; simp only [stp, gtf]; rw [if_pos ⟨h1, by decide, h2⟩]; rfl
theorem G_1000 (a : Nat) (h1 : kd h a = 10) (h2 : 2 ≤ a) : rn k μ (.getfield 1000 :: cs) ls (.ref a :: st) h = rn k μ cs ls (gR h a 0 :: st) h := by
  rw [rn_fix]; simp only [stp, gtf]; rw [if_pos ⟨h1, by decide, h2⟩]; rfl
theorem G_1001 (a : Nat) (h1 : kd h a = 10) (h2 : 2 ≤ a) : rn k μ (.getfield 1001 :: cs) ls (.ref a :: st) h = rn k μ cs ls (gR h a 1 :: st) h := by
  rw [rn_fix]; simp only [stp, gtf]; rw [if_pos ⟨h1, by decide, h2⟩]; rfl
theorem G_1002 (a : Nat) (h1 : kd h a = 10) (h2 : 2 ≤ a) : rn k μ (.getfield 1002 :: cs) ls (.ref a :: st) h = rn k μ cs ls (.int (gI h a 2) :: st) h := by
  rw [rn_fix]; simp only [stp, gtf]; rw [if_pos ⟨h1, by decide, h2⟩]; rfl
theorem G_1100 (a : Nat) (h1 : kd h a = 11) (h2 : 2 ≤ a) : rn k μ (.getfield 1100 :: cs) ls (.ref a :: st) h = rn k μ cs ls (gR h a 0 :: st) h := by
  rw [rn_fix]; simp only [stp, gtf]; rw [if_pos ⟨h1, by decide, h2⟩]; rfl
theorem G_1101 (a : Nat) (h1 : kd h a = 11) (h2 : 2 ≤ a) : rn k μ (.getfield 1101 :: cs) ls (.ref a :: st) h = rn k μ cs ls (gR h a 1 :: st) h := by
  rw [rn_fix]; simp only [stp, gtf]; rw [if_pos ⟨h1, by decide, h2⟩]; rfl
theorem G_1102 (a : Nat) (h1 : kd h a = 11) (h2 : 2 ≤ a) : rn k μ (.getfield 1102 :: cs) ls (.ref a :: st) h = rn k μ cs ls (gR h a 2 :: st) h := by
  rw [rn_fix]; simp only [stp, gtf]; rw [if_pos ⟨h1, by decide, h2⟩]; rfl
theorem G_1103 (a : Nat) (h1 : kd h a = 11) (h2 : 2 ≤ a) : rn k μ (.getfield 1103 :: cs) ls (.ref a :: st) h = rn k μ cs ls (gR h a 3 :: st) h := by
  rw [rn_fix]; simp only [stp, gtf]; rw [if_pos ⟨h1, by decide, h2⟩]; rfl
theorem G_1104 (a : Nat) (h1 : kd h a = 11) (h2 : 2 ≤ a) : rn k μ (.getfield 1104 :: cs) ls (.ref a :: st) h = rn k μ cs ls (gR h a 4 :: st) h := by
  rw [rn_fix]; simp only [stp, gtf]; rw [if_pos ⟨h1, by decide, h2⟩]; rfl
theorem G_1105 (a : Nat) (h1 : kd h a = 11) (h2 : 2 ≤ a) : rn k μ (.getfield 1105 :: cs) ls (.ref a :: st) h = rn k μ cs ls (gR h a 5 :: st) h := by
  rw [rn_fix]; simp only [stp, gtf]; rw [if_pos ⟨h1, by decide, h2⟩]; rfl
theorem G_1106 (a : Nat) (h1 : kd h a = 11) (h2 : 2 ≤ a) : rn k μ (.getfield 1106 :: cs) ls (.ref a :: st) h = rn k μ cs ls (gR h a 6 :: st) h := by
  rw [rn_fix]; simp only [stp, gtf]; rw [if_pos ⟨h1, by decide, h2⟩]; rfl
theorem G_1107 (a : Nat) (h1 : kd h a = 11) (h2 : 2 ≤ a) : rn k μ (.getfield 1107 :: cs) ls (.ref a :: st) h = rn k μ cs ls (gR h a 7 :: st) h := by
  rw [rn_fix]; simp only [stp, gtf]; rw [if_pos ⟨h1, by decide, h2⟩]; rfl
theorem G_1108 (a : Nat) (h1 : kd h a = 11) (h2 : 2 ≤ a) : rn k μ (.getfield 1108 :: cs) ls (.ref a :: st) h = rn k μ cs ls (gR h a 8 :: st) h := by
  rw [rn_fix]; simp only [stp, gtf]; rw [if_pos ⟨h1, by decide, h2⟩]; rfl
theorem G_1109 (a : Nat) (h1 : kd h a = 11) (h2 : 2 ≤ a) : rn k μ (.getfield 1109 :: cs) ls (.ref a :: st) h = rn k μ cs ls (gR h a 9 :: st) h := by
  rw [rn_fix]; simp only [stp, gtf]; rw [if_pos ⟨h1, by decide, h2⟩]; rfl
theorem G_1200 (a : Nat) (h1 : kd h a = 12) (h2 : 2 ≤ a) : rn k μ (.getfield 1200 :: cs) ls (.ref a :: st) h = rn k μ cs ls (gR h a 0 :: st) h := by
  rw [rn_fix]; simp only [stp, gtf]; rw [if_pos ⟨h1, by decide, h2⟩]; rfl
theorem G_1201 (a : Nat) (h1 : kd h a = 12) (h2 : 2 ≤ a) : rn k μ (.getfield 1201 :: cs) ls (.ref a :: st) h = rn k μ cs ls (.int (gI h a 1) :: st) h := by
  rw [rn_fix]; simp only [stp, gtf]; rw [if_pos ⟨h1, by decide, h2⟩]; rfl
theorem G_1202 (a : Nat) (h1 : kd h a = 12) (h2 : 2 ≤ a) : rn k μ (.getfield 1202 :: cs) ls (.ref a :: st) h = rn k μ cs ls (.int (gI h a 2) :: st) h := by
  rw [rn_fix]; simp only [stp, gtf]; rw [if_pos ⟨h1, by decide, h2⟩]; rfl
theorem G_1203 (a : Nat) (h1 : kd h a = 12) (h2 : 2 ≤ a) : rn k μ (.getfield 1203 :: cs) ls (.ref a :: st) h = rn k μ cs ls (.int (gI h a 3) :: st) h := by
  rw [rn_fix]; simp only [stp, gtf]; rw [if_pos ⟨h1, by decide, h2⟩]; rfl
theorem G_1204 (a : Nat) (h1 : kd h a = 12) (h2 : 2 ≤ a) : rn k μ (.getfield 1204 :: cs) ls (.ref a :: st) h = rn k μ cs ls (.int (gI h a 4) :: st) h := by
  rw [rn_fix]; simp only [stp, gtf]; rw [if_pos ⟨h1, by decide, h2⟩]; rfl
theorem G_1205 (a : Nat) (h1 : kd h a = 12) (h2 : 2 ≤ a) : rn k μ (.getfield 1205 :: cs) ls (.ref a :: st) h = rn k μ cs ls (.int (gI h a 5) :: st) h := by
  rw [rn_fix]; simp only [stp, gtf]; rw [if_pos ⟨h1, by decide, h2⟩]; rfl
theorem G_1206 (a : Nat) (h1 : kd h a = 12) (h2 : 2 ≤ a) : rn k μ (.getfield 1206 :: cs) ls (.ref a :: st) h = rn k μ cs ls (.int (gI h a 6) :: st) h := by
  rw [rn_fix]; simp only [stp, gtf]; rw [if_pos ⟨h1, by decide, h2⟩]; rfl
theorem G_1207 (a : Nat) (h1 : kd h a = 12) (h2 : 2 ≤ a) : rn k μ (.getfield 1207 :: cs) ls (.ref a :: st) h = rn k μ cs ls (.int (gI h a 7) :: st) h := by
  rw [rn_fix]; simp only [stp, gtf]; rw [if_pos ⟨h1, by decide, h2⟩]; rfl
theorem G_1208 (a : Nat) (h1 : kd h a = 12) (h2 : 2 ≤ a) : rn k μ (.getfield 1208 :: cs) ls (.ref a :: st) h = rn k μ cs ls (.int (gI h a 8) :: st) h := by
  rw [rn_fix]; simp only [stp, gtf]; rw [if_pos ⟨h1, by decide, h2⟩]; rfl
theorem G_1209 (a : Nat) (h1 : kd h a = 12) (h2 : 2 ≤ a) : rn k μ (.getfield 1209 :: cs) ls (.ref a :: st) h = rn k μ cs ls (.long (gL h a 9) :: st) h := by
  rw [rn_fix]; simp only [stp, gtf]; rw [if_pos ⟨h1, by decide, h2⟩]; rfl
theorem G_1210 (a : Nat) (h1 : kd h a = 12) (h2 : 2 ≤ a) : rn k μ (.getfield 1210 :: cs) ls (.ref a :: st) h = rn k μ cs ls (gR h a 10 :: st) h := by
  rw [rn_fix]; simp only [stp, gtf]; rw [if_pos ⟨h1, by decide, h2⟩]; rfl
theorem G_1211 (a : Nat) (h1 : kd h a = 12) (h2 : 2 ≤ a) : rn k μ (.getfield 1211 :: cs) ls (.ref a :: st) h = rn k μ cs ls (gR h a 11 :: st) h := by
  rw [rn_fix]; simp only [stp, gtf]; rw [if_pos ⟨h1, by decide, h2⟩]; rfl
theorem G_1212 (a : Nat) (h1 : kd h a = 12) (h2 : 2 ≤ a) : rn k μ (.getfield 1212 :: cs) ls (.ref a :: st) h = rn k μ cs ls (gR h a 12 :: st) h := by
  rw [rn_fix]; simp only [stp, gtf]; rw [if_pos ⟨h1, by decide, h2⟩]; rfl
theorem G_1213 (a : Nat) (h1 : kd h a = 12) (h2 : 2 ≤ a) : rn k μ (.getfield 1213 :: cs) ls (.ref a :: st) h = rn k μ cs ls (gR h a 13 :: st) h := by
  rw [rn_fix]; simp only [stp, gtf]; rw [if_pos ⟨h1, by decide, h2⟩]; rfl
theorem G_1214 (a : Nat) (h1 : kd h a = 12) (h2 : 2 ≤ a) : rn k μ (.getfield 1214 :: cs) ls (.ref a :: st) h = rn k μ cs ls (gR h a 14 :: st) h := by
  rw [rn_fix]; simp only [stp, gtf]; rw [if_pos ⟨h1, by decide, h2⟩]; rfl
theorem G_1215 (a : Nat) (h1 : kd h a = 12) (h2 : 2 ≤ a) : rn k μ (.getfield 1215 :: cs) ls (.ref a :: st) h = rn k μ cs ls (gR h a 15 :: st) h := by
  rw [rn_fix]; simp only [stp, gtf]; rw [if_pos ⟨h1, by decide, h2⟩]; rfl
theorem G_1216 (a : Nat) (h1 : kd h a = 12) (h2 : 2 ≤ a) : rn k μ (.getfield 1216 :: cs) ls (.ref a :: st) h = rn k μ cs ls (gR h a 16 :: st) h := by
  rw [rn_fix]; simp only [stp, gtf]; rw [if_pos ⟨h1, by decide, h2⟩]; rfl
theorem G_1217 (a : Nat) (h1 : kd h a = 12) (h2 : 2 ≤ a) : rn k μ (.getfield 1217 :: cs) ls (.ref a :: st) h = rn k μ cs ls (gR h a 17 :: st) h := by
  rw [rn_fix]; simp only [stp, gtf]; rw [if_pos ⟨h1, by decide, h2⟩]; rfl
theorem G_1218 (a : Nat) (h1 : kd h a = 12) (h2 : 2 ≤ a) : rn k μ (.getfield 1218 :: cs) ls (.ref a :: st) h = rn k μ cs ls (gR h a 18 :: st) h := by
  rw [rn_fix]; simp only [stp, gtf]; rw [if_pos ⟨h1, by decide, h2⟩]; rfl
theorem G_1219 (a : Nat) (h1 : kd h a = 12) (h2 : 2 ≤ a) : rn k μ (.getfield 1219 :: cs) ls (.ref a :: st) h = rn k μ cs ls (.int (gI h a 19) :: st) h := by
  rw [rn_fix]; simp only [stp, gtf]; rw [if_pos ⟨h1, by decide, h2⟩]; rfl
theorem G_1220 (a : Nat) (h1 : kd h a = 12) (h2 : 2 ≤ a) : rn k μ (.getfield 1220 :: cs) ls (.ref a :: st) h = rn k μ cs ls (.int (gI h a 20) :: st) h := by
  rw [rn_fix]; simp only [stp, gtf]; rw [if_pos ⟨h1, by decide, h2⟩]; rfl
theorem G_1221 (a : Nat) (h1 : kd h a = 12) (h2 : 2 ≤ a) : rn k μ (.getfield 1221 :: cs) ls (.ref a :: st) h = rn k μ cs ls (.int (gI h a 21) :: st) h := by
  rw [rn_fix]; simp only [stp, gtf]; rw [if_pos ⟨h1, by decide, h2⟩]; rfl
theorem G_1222 (a : Nat) (h1 : kd h a = 12) (h2 : 2 ≤ a) : rn k μ (.getfield 1222 :: cs) ls (.ref a :: st) h = rn k μ cs ls (.int (gI h a 22) :: st) h := by
  rw [rn_fix]; simp only [stp, gtf]; rw [if_pos ⟨h1, by decide, h2⟩]; rfl
theorem G_1223 (a : Nat) (h1 : kd h a = 12) (h2 : 2 ≤ a) : rn k μ (.getfield 1223 :: cs) ls (.ref a :: st) h = rn k μ cs ls (.int (gI h a 23) :: st) h := by
  rw [rn_fix]; simp only [stp, gtf]; rw [if_pos ⟨h1, by decide, h2⟩]; rfl
theorem G_1224 (a : Nat) (h1 : kd h a = 12) (h2 : 2 ≤ a) : rn k μ (.getfield 1224 :: cs) ls (.ref a :: st) h = rn k μ cs ls (.int (gI h a 24) :: st) h := by
  rw [rn_fix]; simp only [stp, gtf]; rw [if_pos ⟨h1, by decide, h2⟩]; rfl
theorem G_1225 (a : Nat) (h1 : kd h a = 12) (h2 : 2 ≤ a) : rn k μ (.getfield 1225 :: cs) ls (.ref a :: st) h = rn k μ cs ls (gR h a 25 :: st) h := by
  rw [rn_fix]; simp only [stp, gtf]; rw [if_pos ⟨h1, by decide, h2⟩]; rfl
theorem G_1226 (a : Nat) (h1 : kd h a = 12) (h2 : 2 ≤ a) : rn k μ (.getfield 1226 :: cs) ls (.ref a :: st) h = rn k μ cs ls (gR h a 26 :: st) h := by
  rw [rn_fix]; simp only [stp, gtf]; rw [if_pos ⟨h1, by decide, h2⟩]; rfl
theorem G_1227 (a : Nat) (h1 : kd h a = 12) (h2 : 2 ≤ a) : rn k μ (.getfield 1227 :: cs) ls (.ref a :: st) h = rn k μ cs ls (gR h a 27 :: st) h := by
  rw [rn_fix]; simp only [stp, gtf]; rw [if_pos ⟨h1, by decide, h2⟩]; rfl
theorem G_1228 (a : Nat) (h1 : kd h a = 12) (h2 : 2 ≤ a) : rn k μ (.getfield 1228 :: cs) ls (.ref a :: st) h = rn k μ cs ls (gR h a 28 :: st) h := by
  rw [rn_fix]; simp only [stp, gtf]; rw [if_pos ⟨h1, by decide, h2⟩]; rfl
theorem G_1229 (a : Nat) (h1 : kd h a = 12) (h2 : 2 ≤ a) : rn k μ (.getfield 1229 :: cs) ls (.ref a :: st) h = rn k μ cs ls (gR h a 29 :: st) h := by
  rw [rn_fix]; simp only [stp, gtf]; rw [if_pos ⟨h1, by decide, h2⟩]; rfl
theorem G_1230 (a : Nat) (h1 : kd h a = 12) (h2 : 2 ≤ a) : rn k μ (.getfield 1230 :: cs) ls (.ref a :: st) h = rn k μ cs ls (gR h a 30 :: st) h := by
  rw [rn_fix]; simp only [stp, gtf]; rw [if_pos ⟨h1, by decide, h2⟩]; rfl
theorem G_1231 (a : Nat) (h1 : kd h a = 12) (h2 : 2 ≤ a) : rn k μ (.getfield 1231 :: cs) ls (.ref a :: st) h = rn k μ cs ls (gR h a 31 :: st) h := by
  rw [rn_fix]; simp only [stp, gtf]; rw [if_pos ⟨h1, by decide, h2⟩]; rfl
theorem G_1232 (a : Nat) (h1 : kd h a = 12) (h2 : 2 ≤ a) : rn k μ (.getfield 1232 :: cs) ls (.ref a :: st) h = rn k μ cs ls (gR h a 32 :: st) h := by
  rw [rn_fix]; simp only [stp, gtf]; rw [if_pos ⟨h1, by decide, h2⟩]; rfl
theorem G_1233 (a : Nat) (h1 : kd h a = 12) (h2 : 2 ≤ a) : rn k μ (.getfield 1233 :: cs) ls (.ref a :: st) h = rn k μ cs ls (gR h a 33 :: st) h := by
  rw [rn_fix]; simp only [stp, gtf]; rw [if_pos ⟨h1, by decide, h2⟩]; rfl
theorem G_1234 (a : Nat) (h1 : kd h a = 12) (h2 : 2 ≤ a) : rn k μ (.getfield 1234 :: cs) ls (.ref a :: st) h = rn k μ cs ls (gR h a 34 :: st) h := by
  rw [rn_fix]; simp only [stp, gtf]; rw [if_pos ⟨h1, by decide, h2⟩]; rfl
theorem G_1235 (a : Nat) (h1 : kd h a = 12) (h2 : 2 ≤ a) : rn k μ (.getfield 1235 :: cs) ls (.ref a :: st) h = rn k μ cs ls (gR h a 35 :: st) h := by
  rw [rn_fix]; simp only [stp, gtf]; rw [if_pos ⟨h1, by decide, h2⟩]; rfl
theorem G_1236 (a : Nat) (h1 : kd h a = 12) (h2 : 2 ≤ a) : rn k μ (.getfield 1236 :: cs) ls (.ref a :: st) h = rn k μ cs ls (gR h a 36 :: st) h := by
  rw [rn_fix]; simp only [stp, gtf]; rw [if_pos ⟨h1, by decide, h2⟩]; rfl
theorem G_1237 (a : Nat) (h1 : kd h a = 12) (h2 : 2 ≤ a) : rn k μ (.getfield 1237 :: cs) ls (.ref a :: st) h = rn k μ cs ls (gR h a 37 :: st) h := by
  rw [rn_fix]; simp only [stp, gtf]; rw [if_pos ⟨h1, by decide, h2⟩]; rfl
theorem G_1238 (a : Nat) (h1 : kd h a = 12) (h2 : 2 ≤ a) : rn k μ (.getfield 1238 :: cs) ls (.ref a :: st) h = rn k μ cs ls (gR h a 38 :: st) h := by
  rw [rn_fix]; simp only [stp, gtf]; rw [if_pos ⟨h1, by decide, h2⟩]; rfl
theorem G_1239 (a : Nat) (h1 : kd h a = 12) (h2 : 2 ≤ a) : rn k μ (.getfield 1239 :: cs) ls (.ref a :: st) h = rn k μ cs ls (gR h a 39 :: st) h := by
  rw [rn_fix]; simp only [stp, gtf]; rw [if_pos ⟨h1, by decide, h2⟩]; rfl
theorem G_1240 (a : Nat) (h1 : kd h a = 12) (h2 : 2 ≤ a) : rn k μ (.getfield 1240 :: cs) ls (.ref a :: st) h = rn k μ cs ls (.int (gI h a 40) :: st) h := by
  rw [rn_fix]; simp only [stp, gtf]; rw [if_pos ⟨h1, by decide, h2⟩]; rfl
theorem G_1241 (a : Nat) (h1 : kd h a = 12) (h2 : 2 ≤ a) : rn k μ (.getfield 1241 :: cs) ls (.ref a :: st) h = rn k μ cs ls (.int (gI h a 41) :: st) h := by
  rw [rn_fix]; simp only [stp, gtf]; rw [if_pos ⟨h1, by decide, h2⟩]; rfl
theorem G_1242 (a : Nat) (h1 : kd h a = 12) (h2 : 2 ≤ a) : rn k μ (.getfield 1242 :: cs) ls (.ref a :: st) h = rn k μ cs ls (.int (gI h a 42) :: st) h := by
  rw [rn_fix]; simp only [stp, gtf]; rw [if_pos ⟨h1, by decide, h2⟩]; rfl
theorem G_1243 (a : Nat) (h1 : kd h a = 12) (h2 : 2 ≤ a) : rn k μ (.getfield 1243 :: cs) ls (.ref a :: st) h = rn k μ cs ls (.int (gI h a 43) :: st) h := by
  rw [rn_fix]; simp only [stp, gtf]; rw [if_pos ⟨h1, by decide, h2⟩]; rfl
theorem G_1244 (a : Nat) (h1 : kd h a = 12) (h2 : 2 ≤ a) : rn k μ (.getfield 1244 :: cs) ls (.ref a :: st) h = rn k μ cs ls (.int (gI h a 44) :: st) h := by
  rw [rn_fix]; simp only [stp, gtf]; rw [if_pos ⟨h1, by decide, h2⟩]; rfl
theorem G_1245 (a : Nat) (h1 : kd h a = 12) (h2 : 2 ≤ a) : rn k μ (.getfield 1245 :: cs) ls (.ref a :: st) h = rn k μ cs ls (.int (gI h a 45) :: st) h := by
  rw [rn_fix]; simp only [stp, gtf]; rw [if_pos ⟨h1, by decide, h2⟩]; rfl
theorem G_1246 (a : Nat) (h1 : kd h a = 12) (h2 : 2 ≤ a) : rn k μ (.getfield 1246 :: cs) ls (.ref a :: st) h = rn k μ cs ls (.int (gI h a 46) :: st) h := by
  rw [rn_fix]; simp only [stp, gtf]; rw [if_pos ⟨h1, by decide, h2⟩]; rfl
theorem G_1247 (a : Nat) (h1 : kd h a = 12) (h2 : 2 ≤ a) : rn k μ (.getfield 1247 :: cs) ls (.ref a :: st) h = rn k μ cs ls (.int (gI h a 47) :: st) h := by
  rw [rn_fix]; simp only [stp, gtf]; rw [if_pos ⟨h1, by decide, h2⟩]; rfl
theorem G_1248 (a : Nat) (h1 : kd h a = 12) (h2 : 2 ≤ a) : rn k μ (.getfield 1248 :: cs) ls (.ref a :: st) h = rn k μ cs ls (.int (gI h a 48) :: st) h := by
  rw [rn_fix]; simp only [stp, gtf]; rw [if_pos ⟨h1, by decide, h2⟩]; rfl
theorem G_1249 (a : Nat) (h1 : kd h a = 12) (h2 : 2 ≤ a) : rn k μ (.getfield 1249 :: cs) ls (.ref a :: st) h = rn k μ cs ls (.int (gI h a 49) :: st) h := by
  rw [rn_fix]; simp only [stp, gtf]; rw [if_pos ⟨h1, by decide, h2⟩]; rfl
theorem G_1250 (a : Nat) (h1 : kd h a = 12) (h2 : 2 ≤ a) : rn k μ (.getfield 1250 :: cs) ls (.ref a :: st) h = rn k μ cs ls (.int (gI h a 50) :: st) h := by
  rw [rn_fix]; simp only [stp, gtf]; rw [if_pos ⟨h1, by decide, h2⟩]; rfl
theorem G_1251 (a : Nat) (h1 : kd h a = 12) (h2 : 2 ≤ a) : rn k μ (.getfield 1251 :: cs) ls (.ref a :: st) h = rn k μ cs ls (.int (gI h a 51) :: st) h := by
  rw [rn_fix]; simp only [stp, gtf]; rw [if_pos ⟨h1, by decide, h2⟩]; rfl
theorem G_1252 (a : Nat) (h1 : kd h a = 12) (h2 : 2 ≤ a) : rn k μ (.getfield 1252 :: cs) ls (.ref a :: st) h = rn k μ cs ls (.int (gI h a 52) :: st) h := by
  rw [rn_fix]; simp only [stp, gtf]; rw [if_pos ⟨h1, by decide, h2⟩]; rfl
theorem G_1253 (a : Nat) (h1 : kd h a = 12) (h2 : 2 ≤ a) : rn k μ (.getfield 1253 :: cs) ls (.ref a :: st) h = rn k μ cs ls (.int (gI h a 53) :: st) h := by
  rw [rn_fix]; simp only [stp, gtf]; rw [if_pos ⟨h1, by decide, h2⟩]; rfl
theorem G_1254 (a : Nat) (h1 : kd h a = 12) (h2 : 2 ≤ a) : rn k μ (.getfield 1254 :: cs) ls (.ref a :: st) h = rn k μ cs ls (.int (gI h a 54) :: st) h := by
  rw [rn_fix]; simp only [stp, gtf]; rw [if_pos ⟨h1, by decide, h2⟩]; rfl
theorem G_1255 (a : Nat) (h1 : kd h a = 12) (h2 : 2 ≤ a) : rn k μ (.getfield 1255 :: cs) ls (.ref a :: st) h = rn k μ cs ls (.int (gI h a 55) :: st) h := by
  rw [rn_fix]; simp only [stp, gtf]; rw [if_pos ⟨h1, by decide, h2⟩]; rfl
theorem G_1256 (a : Nat) (h1 : kd h a = 12) (h2 : 2 ≤ a) : rn k μ (.getfield 1256 :: cs) ls (.ref a :: st) h = rn k μ cs ls (.int (gI h a 56) :: st) h := by
  rw [rn_fix]; simp only [stp, gtf]; rw [if_pos ⟨h1, by decide, h2⟩]; rfl
theorem G_1257 (a : Nat) (h1 : kd h a = 12) (h2 : 2 ≤ a) : rn k μ (.getfield 1257 :: cs) ls (.ref a :: st) h = rn k μ cs ls (.int (gI h a 57) :: st) h := by
  rw [rn_fix]; simp only [stp, gtf]; rw [if_pos ⟨h1, by decide, h2⟩]; rfl
theorem G_1258 (a : Nat) (h1 : kd h a = 12) (h2 : 2 ≤ a) : rn k μ (.getfield 1258 :: cs) ls (.ref a :: st) h = rn k μ cs ls (.int (gI h a 58) :: st) h := by
  rw [rn_fix]; simp only [stp, gtf]; rw [if_pos ⟨h1, by decide, h2⟩]; rfl
theorem G_1259 (a : Nat) (h1 : kd h a = 12) (h2 : 2 ≤ a) : rn k μ (.getfield 1259 :: cs) ls (.ref a :: st) h = rn k μ cs ls (.int (gI h a 59) :: st) h := by
  rw [rn_fix]; simp only [stp, gtf]; rw [if_pos ⟨h1, by decide, h2⟩]; rfl
theorem G_1260 (a : Nat) (h1 : kd h a = 12) (h2 : 2 ≤ a) : rn k μ (.getfield 1260 :: cs) ls (.ref a :: st) h = rn k μ cs ls (gR h a 60 :: st) h := by
  rw [rn_fix]; simp only [stp, gtf]; rw [if_pos ⟨h1, by decide, h2⟩]; rfl
theorem G_1261 (a : Nat) (h1 : kd h a = 12) (h2 : 2 ≤ a) : rn k μ (.getfield 1261 :: cs) ls (.ref a :: st) h = rn k μ cs ls (gR h a 61 :: st) h := by
  rw [rn_fix]; simp only [stp, gtf]; rw [if_pos ⟨h1, by decide, h2⟩]; rfl
theorem G_1262 (a : Nat) (h1 : kd h a = 12) (h2 : 2 ≤ a) : rn k μ (.getfield 1262 :: cs) ls (.ref a :: st) h = rn k μ cs ls (gR h a 62 :: st) h := by
  rw [rn_fix]; simp only [stp, gtf]; rw [if_pos ⟨h1, by decide, h2⟩]; rfl
theorem G_1263 (a : Nat) (h1 : kd h a = 12) (h2 : 2 ≤ a) : rn k μ (.getfield 1263 :: cs) ls (.ref a :: st) h = rn k μ cs ls (gR h a 63 :: st) h := by
  rw [rn_fix]; simp only [stp, gtf]; rw [if_pos ⟨h1, by decide, h2⟩]; rfl
theorem G_1264 (a : Nat) (h1 : kd h a = 12) (h2 : 2 ≤ a) : rn k μ (.getfield 1264 :: cs) ls (.ref a :: st) h = rn k μ cs ls (.int (gI h a 64) :: st) h := by
  rw [rn_fix]; simp only [stp, gtf]; rw [if_pos ⟨h1, by decide, h2⟩]; rfl
theorem G_1265 (a : Nat) (h1 : kd h a = 12) (h2 : 2 ≤ a) : rn k μ (.getfield 1265 :: cs) ls (.ref a :: st) h = rn k μ cs ls (.int (gI h a 65) :: st) h := by
  rw [rn_fix]; simp only [stp, gtf]; rw [if_pos ⟨h1, by decide, h2⟩]; rfl
theorem G_1266 (a : Nat) (h1 : kd h a = 12) (h2 : 2 ≤ a) : rn k μ (.getfield 1266 :: cs) ls (.ref a :: st) h = rn k μ cs ls (gR h a 66 :: st) h := by
  rw [rn_fix]; simp only [stp, gtf]; rw [if_pos ⟨h1, by decide, h2⟩]; rfl
theorem G_1267 (a : Nat) (h1 : kd h a = 12) (h2 : 2 ≤ a) : rn k μ (.getfield 1267 :: cs) ls (.ref a :: st) h = rn k μ cs ls (.int (gI h a 67) :: st) h := by
  rw [rn_fix]; simp only [stp, gtf]; rw [if_pos ⟨h1, by decide, h2⟩]; rfl
theorem G_1268 (a : Nat) (h1 : kd h a = 12) (h2 : 2 ≤ a) : rn k μ (.getfield 1268 :: cs) ls (.ref a :: st) h = rn k μ cs ls (gR h a 68 :: st) h := by
  rw [rn_fix]; simp only [stp, gtf]; rw [if_pos ⟨h1, by decide, h2⟩]; rfl
theorem G_1269 (a : Nat) (h1 : kd h a = 12) (h2 : 2 ≤ a) : rn k μ (.getfield 1269 :: cs) ls (.ref a :: st) h = rn k μ cs ls (gR h a 69 :: st) h := by
  rw [rn_fix]; simp only [stp, gtf]; rw [if_pos ⟨h1, by decide, h2⟩]; rfl
theorem G_1270 (a : Nat) (h1 : kd h a = 12) (h2 : 2 ≤ a) : rn k μ (.getfield 1270 :: cs) ls (.ref a :: st) h = rn k μ cs ls (.int (gI h a 70) :: st) h := by
  rw [rn_fix]; simp only [stp, gtf]; rw [if_pos ⟨h1, by decide, h2⟩]; rfl
theorem G_1271 (a : Nat) (h1 : kd h a = 12) (h2 : 2 ≤ a) : rn k μ (.getfield 1271 :: cs) ls (.ref a :: st) h = rn k μ cs ls (gR h a 71 :: st) h := by
  rw [rn_fix]; simp only [stp, gtf]; rw [if_pos ⟨h1, by decide, h2⟩]; rfl
theorem G_1272 (a : Nat) (h1 : kd h a = 12) (h2 : 2 ≤ a) : rn k μ (.getfield 1272 :: cs) ls (.ref a :: st) h = rn k μ cs ls (gR h a 72 :: st) h := by
  rw [rn_fix]; simp only [stp, gtf]; rw [if_pos ⟨h1, by decide, h2⟩]; rfl
theorem G_1273 (a : Nat) (h1 : kd h a = 12) (h2 : 2 ≤ a) : rn k μ (.getfield 1273 :: cs) ls (.ref a :: st) h = rn k μ cs ls (gR h a 73 :: st) h := by
  rw [rn_fix]; simp only [stp, gtf]; rw [if_pos ⟨h1, by decide, h2⟩]; rfl
theorem G_1274 (a : Nat) (h1 : kd h a = 12) (h2 : 2 ≤ a) : rn k μ (.getfield 1274 :: cs) ls (.ref a :: st) h = rn k μ cs ls (gR h a 74 :: st) h := by
  rw [rn_fix]; simp only [stp, gtf]; rw [if_pos ⟨h1, by decide, h2⟩]; rfl
theorem G_1275 (a : Nat) (h1 : kd h a = 12) (h2 : 2 ≤ a) : rn k μ (.getfield 1275 :: cs) ls (.ref a :: st) h = rn k μ cs ls (.int (gI h a 75) :: st) h := by
  rw [rn_fix]; simp only [stp, gtf]; rw [if_pos ⟨h1, by decide, h2⟩]; rfl
theorem G_1276 (a : Nat) (h1 : kd h a = 12) (h2 : 2 ≤ a) : rn k μ (.getfield 1276 :: cs) ls (.ref a :: st) h = rn k μ cs ls (.int (gI h a 76) :: st) h := by
  rw [rn_fix]; simp only [stp, gtf]; rw [if_pos ⟨h1, by decide, h2⟩]; rfl
theorem G_1277 (a : Nat) (h1 : kd h a = 12) (h2 : 2 ≤ a) : rn k μ (.getfield 1277 :: cs) ls (.ref a :: st) h = rn k μ cs ls (gR h a 77 :: st) h := by
  rw [rn_fix]; simp only [stp, gtf]; rw [if_pos ⟨h1, by decide, h2⟩]; rfl
theorem G_1278 (a : Nat) (h1 : kd h a = 12) (h2 : 2 ≤ a) : rn k μ (.getfield 1278 :: cs) ls (.ref a :: st) h = rn k μ cs ls (gR h a 78 :: st) h := by
  rw [rn_fix]; simp only [stp, gtf]; rw [if_pos ⟨h1, by decide, h2⟩]; rfl
theorem G_1279 (a : Nat) (h1 : kd h a = 12) (h2 : 2 ≤ a) : rn k μ (.getfield 1279 :: cs) ls (.ref a :: st) h = rn k μ cs ls (gR h a 79 :: st) h := by
  rw [rn_fix]; simp only [stp, gtf]; rw [if_pos ⟨h1, by decide, h2⟩]; rfl
theorem G_1280 (a : Nat) (h1 : kd h a = 12) (h2 : 2 ≤ a) : rn k μ (.getfield 1280 :: cs) ls (.ref a :: st) h = rn k μ cs ls (gR h a 80 :: st) h := by
  rw [rn_fix]; simp only [stp, gtf]; rw [if_pos ⟨h1, by decide, h2⟩]; rfl
theorem G_1281 (a : Nat) (h1 : kd h a = 12) (h2 : 2 ≤ a) : rn k μ (.getfield 1281 :: cs) ls (.ref a :: st) h = rn k μ cs ls (gR h a 81 :: st) h := by
  rw [rn_fix]; simp only [stp, gtf]; rw [if_pos ⟨h1, by decide, h2⟩]; rfl
theorem G_1282 (a : Nat) (h1 : kd h a = 12) (h2 : 2 ≤ a) : rn k μ (.getfield 1282 :: cs) ls (.ref a :: st) h = rn k μ cs ls (.int (gI h a 82) :: st) h := by
  rw [rn_fix]; simp only [stp, gtf]; rw [if_pos ⟨h1, by decide, h2⟩]; rfl
theorem G_1283 (a : Nat) (h1 : kd h a = 12) (h2 : 2 ≤ a) : rn k μ (.getfield 1283 :: cs) ls (.ref a :: st) h = rn k μ cs ls (.int (gI h a 83) :: st) h := by
  rw [rn_fix]; simp only [stp, gtf]; rw [if_pos ⟨h1, by decide, h2⟩]; rfl
theorem G_1284 (a : Nat) (h1 : kd h a = 12) (h2 : 2 ≤ a) : rn k μ (.getfield 1284 :: cs) ls (.ref a :: st) h = rn k μ cs ls (gR h a 84 :: st) h := by
  rw [rn_fix]; simp only [stp, gtf]; rw [if_pos ⟨h1, by decide, h2⟩]; rfl
theorem G_1285 (a : Nat) (h1 : kd h a = 12) (h2 : 2 ≤ a) : rn k μ (.getfield 1285 :: cs) ls (.ref a :: st) h = rn k μ cs ls (gR h a 85 :: st) h := by
  rw [rn_fix]; simp only [stp, gtf]; rw [if_pos ⟨h1, by decide, h2⟩]; rfl
theorem G_1286 (a : Nat) (h1 : kd h a = 12) (h2 : 2 ≤ a) : rn k μ (.getfield 1286 :: cs) ls (.ref a :: st) h = rn k μ cs ls (gR h a 86 :: st) h := by
  rw [rn_fix]; simp only [stp, gtf]; rw [if_pos ⟨h1, by decide, h2⟩]; rfl
theorem G_1287 (a : Nat) (h1 : kd h a = 12) (h2 : 2 ≤ a) : rn k μ (.getfield 1287 :: cs) ls (.ref a :: st) h = rn k μ cs ls (gR h a 87 :: st) h := by
  rw [rn_fix]; simp only [stp, gtf]; rw [if_pos ⟨h1, by decide, h2⟩]; rfl
theorem P_0 (a : Nat) (x : Nat) (h1 : kd h a = 0) (h2 : 2 ≤ a) : rn k μ (.putfield 0 :: cs) ls (.ref x :: .ref a :: st) h = rn k μ cs ls st (sR h a 0 (.ref x)) := by
  rw [rn_fix]; simp only [stp, ptf]; rw [if_pos ⟨h1, by decide, h2⟩]; rfl
theorem P_1 (a : Nat) (x : Int32) (h1 : kd h a = 0) (h2 : 2 ≤ a) : rn k μ (.putfield 1 :: cs) ls (.int x :: .ref a :: st) h = rn k μ cs ls st (sI h a 1 x) := by
  rw [rn_fix]; simp only [stp, ptf]; rw [if_pos ⟨h1, by decide, h2⟩]; rfl
theorem P_2 (a : Nat) (x : Nat) (h1 : kd h a = 0) (h2 : 2 ≤ a) : rn k μ (.putfield 2 :: cs) ls (.ref x :: .ref a :: st) h = rn k μ cs ls st (sR h a 2 (.ref x)) := by
  rw [rn_fix]; simp only [stp, ptf]; rw [if_pos ⟨h1, by decide, h2⟩]; rfl
theorem P_3 (a : Nat) (x : Nat) (h1 : kd h a = 0) (h2 : 2 ≤ a) : rn k μ (.putfield 3 :: cs) ls (.ref x :: .ref a :: st) h = rn k μ cs ls st (sR h a 3 (.ref x)) := by
  rw [rn_fix]; simp only [stp, ptf]; rw [if_pos ⟨h1, by decide, h2⟩]; rfl
theorem P_4 (a : Nat) (x : Nat) (h1 : kd h a = 0) (h2 : 2 ≤ a) : rn k μ (.putfield 4 :: cs) ls (.ref x :: .ref a :: st) h = rn k μ cs ls st (sR h a 4 (.ref x)) := by
  rw [rn_fix]; simp only [stp, ptf]; rw [if_pos ⟨h1, by decide, h2⟩]; rfl
theorem P_5 (a : Nat) (x : Nat) (h1 : kd h a = 0) (h2 : 2 ≤ a) : rn k μ (.putfield 5 :: cs) ls (.ref x :: .ref a :: st) h = rn k μ cs ls st (sR h a 5 (.ref x)) := by
  rw [rn_fix]; simp only [stp, ptf]; rw [if_pos ⟨h1, by decide, h2⟩]; rfl
theorem P_6 (a : Nat) (x : Nat) (h1 : kd h a = 0) (h2 : 2 ≤ a) : rn k μ (.putfield 6 :: cs) ls (.ref x :: .ref a :: st) h = rn k μ cs ls st (sR h a 6 (.ref x)) := by
  rw [rn_fix]; simp only [stp, ptf]; rw [if_pos ⟨h1, by decide, h2⟩]; rfl
theorem P_7 (a : Nat) (x : Nat) (h1 : kd h a = 0) (h2 : 2 ≤ a) : rn k μ (.putfield 7 :: cs) ls (.ref x :: .ref a :: st) h = rn k μ cs ls st (sR h a 7 (.ref x)) := by
  rw [rn_fix]; simp only [stp, ptf]; rw [if_pos ⟨h1, by decide, h2⟩]; rfl
theorem P_100 (a : Nat) (x : Nat) (h1 : kd h a = 1) (h2 : 2 ≤ a) : rn k μ (.putfield 100 :: cs) ls (.ref x :: .ref a :: st) h = rn k μ cs ls st (sR h a 0 (.ref x)) := by
  rw [rn_fix]; simp only [stp, ptf]; rw [if_pos ⟨h1, by decide, h2⟩]; rfl
theorem P_101 (a : Nat) (x : Int32) (h1 : kd h a = 1) (h2 : 2 ≤ a) : rn k μ (.putfield 101 :: cs) ls (.int x :: .ref a :: st) h = rn k μ cs ls st (sI h a 1 x) := by
  rw [rn_fix]; simp only [stp, ptf]; rw [if_pos ⟨h1, by decide, h2⟩]; rfl
theorem P_102 (a : Nat) (x : Nat) (h1 : kd h a = 1) (h2 : 2 ≤ a) : rn k μ (.putfield 102 :: cs) ls (.ref x :: .ref a :: st) h = rn k μ cs ls st (sR h a 2 (.ref x)) := by
  rw [rn_fix]; simp only [stp, ptf]; rw [if_pos ⟨h1, by decide, h2⟩]; rfl
theorem P_103 (a : Nat) (x : Nat) (h1 : kd h a = 1) (h2 : 2 ≤ a) : rn k μ (.putfield 103 :: cs) ls (.ref x :: .ref a :: st) h = rn k μ cs ls st (sR h a 3 (.ref x)) := by
  rw [rn_fix]; simp only [stp, ptf]; rw [if_pos ⟨h1, by decide, h2⟩]; rfl
theorem P_104 (a : Nat) (x : Nat) (h1 : kd h a = 1) (h2 : 2 ≤ a) : rn k μ (.putfield 104 :: cs) ls (.ref x :: .ref a :: st) h = rn k μ cs ls st (sR h a 4 (.ref x)) := by
  rw [rn_fix]; simp only [stp, ptf]; rw [if_pos ⟨h1, by decide, h2⟩]; rfl
theorem P_105 (a : Nat) (x : Int32) (h1 : kd h a = 1) (h2 : 2 ≤ a) : rn k μ (.putfield 105 :: cs) ls (.int x :: .ref a :: st) h = rn k μ cs ls st (sI h a 5 x) := by
  rw [rn_fix]; simp only [stp, ptf]; rw [if_pos ⟨h1, by decide, h2⟩]; rfl
theorem P_200 (a : Nat) (x : Nat) (h1 : kd h a = 2) (h2 : 2 ≤ a) : rn k μ (.putfield 200 :: cs) ls (.ref x :: .ref a :: st) h = rn k μ cs ls st (sR h a 0 (.ref x)) := by
  rw [rn_fix]; simp only [stp, ptf]; rw [if_pos ⟨h1, by decide, h2⟩]; rfl
theorem P_201 (a : Nat) (x : Nat) (h1 : kd h a = 2) (h2 : 2 ≤ a) : rn k μ (.putfield 201 :: cs) ls (.ref x :: .ref a :: st) h = rn k μ cs ls st (sR h a 1 (.ref x)) := by
  rw [rn_fix]; simp only [stp, ptf]; rw [if_pos ⟨h1, by decide, h2⟩]; rfl
theorem P_202 (a : Nat) (x : Nat) (h1 : kd h a = 2) (h2 : 2 ≤ a) : rn k μ (.putfield 202 :: cs) ls (.ref x :: .ref a :: st) h = rn k μ cs ls st (sR h a 2 (.ref x)) := by
  rw [rn_fix]; simp only [stp, ptf]; rw [if_pos ⟨h1, by decide, h2⟩]; rfl
theorem P_203 (a : Nat) (x : Nat) (h1 : kd h a = 2) (h2 : 2 ≤ a) : rn k μ (.putfield 203 :: cs) ls (.ref x :: .ref a :: st) h = rn k μ cs ls st (sR h a 3 (.ref x)) := by
  rw [rn_fix]; simp only [stp, ptf]; rw [if_pos ⟨h1, by decide, h2⟩]; rfl
theorem P_204 (a : Nat) (x : Nat) (h1 : kd h a = 2) (h2 : 2 ≤ a) : rn k μ (.putfield 204 :: cs) ls (.ref x :: .ref a :: st) h = rn k μ cs ls st (sR h a 4 (.ref x)) := by
  rw [rn_fix]; simp only [stp, ptf]; rw [if_pos ⟨h1, by decide, h2⟩]; rfl
theorem P_205 (a : Nat) (x : Int32) (h1 : kd h a = 2) (h2 : 2 ≤ a) : rn k μ (.putfield 205 :: cs) ls (.int x :: .ref a :: st) h = rn k μ cs ls st (sI h a 5 x) := by
  rw [rn_fix]; simp only [stp, ptf]; rw [if_pos ⟨h1, by decide, h2⟩]; rfl
theorem P_206 (a : Nat) (x : Int32) (h1 : kd h a = 2) (h2 : 2 ≤ a) : rn k μ (.putfield 206 :: cs) ls (.int x :: .ref a :: st) h = rn k μ cs ls st (sI h a 6 x) := by
  rw [rn_fix]; simp only [stp, ptf]; rw [if_pos ⟨h1, by decide, h2⟩]; rfl
theorem P_300 (a : Nat) (x : Nat) (h1 : kd h a = 3) (h2 : 2 ≤ a) : rn k μ (.putfield 300 :: cs) ls (.ref x :: .ref a :: st) h = rn k μ cs ls st (sR h a 0 (.ref x)) := by
  rw [rn_fix]; simp only [stp, ptf]; rw [if_pos ⟨h1, by decide, h2⟩]; rfl
theorem P_301 (a : Nat) (x : Int32) (h1 : kd h a = 3) (h2 : 2 ≤ a) : rn k μ (.putfield 301 :: cs) ls (.int x :: .ref a :: st) h = rn k μ cs ls st (sI h a 1 x) := by
  rw [rn_fix]; simp only [stp, ptf]; rw [if_pos ⟨h1, by decide, h2⟩]; rfl
theorem P_400 (a : Nat) (x : Nat) (h1 : kd h a = 4) (h2 : 2 ≤ a) : rn k μ (.putfield 400 :: cs) ls (.ref x :: .ref a :: st) h = rn k μ cs ls st (sR h a 0 (.ref x)) := by
  rw [rn_fix]; simp only [stp, ptf]; rw [if_pos ⟨h1, by decide, h2⟩]; rfl
theorem P_401 (a : Nat) (x : Int32) (h1 : kd h a = 4) (h2 : 2 ≤ a) : rn k μ (.putfield 401 :: cs) ls (.int x :: .ref a :: st) h = rn k μ cs ls st (sI h a 1 x) := by
  rw [rn_fix]; simp only [stp, ptf]; rw [if_pos ⟨h1, by decide, h2⟩]; rfl
theorem P_500 (a : Nat) (x : Nat) (h1 : kd h a = 5) (h2 : 2 ≤ a) : rn k μ (.putfield 500 :: cs) ls (.ref x :: .ref a :: st) h = rn k μ cs ls st (sR h a 0 (.ref x)) := by
  rw [rn_fix]; simp only [stp, ptf]; rw [if_pos ⟨h1, by decide, h2⟩]; rfl
theorem P_501 (a : Nat) (x : Nat) (h1 : kd h a = 5) (h2 : 2 ≤ a) : rn k μ (.putfield 501 :: cs) ls (.ref x :: .ref a :: st) h = rn k μ cs ls st (sR h a 1 (.ref x)) := by
  rw [rn_fix]; simp only [stp, ptf]; rw [if_pos ⟨h1, by decide, h2⟩]; rfl
theorem P_502 (a : Nat) (x : Nat) (h1 : kd h a = 5) (h2 : 2 ≤ a) : rn k μ (.putfield 502 :: cs) ls (.ref x :: .ref a :: st) h = rn k μ cs ls st (sR h a 2 (.ref x)) := by
  rw [rn_fix]; simp only [stp, ptf]; rw [if_pos ⟨h1, by decide, h2⟩]; rfl
theorem P_503 (a : Nat) (x : Nat) (h1 : kd h a = 5) (h2 : 2 ≤ a) : rn k μ (.putfield 503 :: cs) ls (.ref x :: .ref a :: st) h = rn k μ cs ls st (sR h a 3 (.ref x)) := by
  rw [rn_fix]; simp only [stp, ptf]; rw [if_pos ⟨h1, by decide, h2⟩]; rfl
theorem P_504 (a : Nat) (x : Nat) (h1 : kd h a = 5) (h2 : 2 ≤ a) : rn k μ (.putfield 504 :: cs) ls (.ref x :: .ref a :: st) h = rn k μ cs ls st (sR h a 4 (.ref x)) := by
  rw [rn_fix]; simp only [stp, ptf]; rw [if_pos ⟨h1, by decide, h2⟩]; rfl
theorem P_505 (a : Nat) (x : Nat) (h1 : kd h a = 5) (h2 : 2 ≤ a) : rn k μ (.putfield 505 :: cs) ls (.ref x :: .ref a :: st) h = rn k μ cs ls st (sR h a 5 (.ref x)) := by
  rw [rn_fix]; simp only [stp, ptf]; rw [if_pos ⟨h1, by decide, h2⟩]; rfl
theorem P_506 (a : Nat) (x : Nat) (h1 : kd h a = 5) (h2 : 2 ≤ a) : rn k μ (.putfield 506 :: cs) ls (.ref x :: .ref a :: st) h = rn k μ cs ls st (sR h a 6 (.ref x)) := by
  rw [rn_fix]; simp only [stp, ptf]; rw [if_pos ⟨h1, by decide, h2⟩]; rfl
theorem P_507 (a : Nat) (x : Nat) (h1 : kd h a = 5) (h2 : 2 ≤ a) : rn k μ (.putfield 507 :: cs) ls (.ref x :: .ref a :: st) h = rn k μ cs ls st (sR h a 7 (.ref x)) := by
  rw [rn_fix]; simp only [stp, ptf]; rw [if_pos ⟨h1, by decide, h2⟩]; rfl
theorem P_508 (a : Nat) (x : Nat) (h1 : kd h a = 5) (h2 : 2 ≤ a) : rn k μ (.putfield 508 :: cs) ls (.ref x :: .ref a :: st) h = rn k μ cs ls st (sR h a 8 (.ref x)) := by
  rw [rn_fix]; simp only [stp, ptf]; rw [if_pos ⟨h1, by decide, h2⟩]; rfl
theorem P_509 (a : Nat) (x : Nat) (h1 : kd h a = 5) (h2 : 2 ≤ a) : rn k μ (.putfield 509 :: cs) ls (.ref x :: .ref a :: st) h = rn k μ cs ls st (sR h a 9 (.ref x)) := by
  rw [rn_fix]; simp only [stp, ptf]; rw [if_pos ⟨h1, by decide, h2⟩]; rfl
theorem P_510 (a : Nat) (x : Nat) (h1 : kd h a = 5) (h2 : 2 ≤ a) : rn k μ (.putfield 510 :: cs) ls (.ref x :: .ref a :: st) h = rn k μ cs ls st (sR h a 10 (.ref x)) := by
  rw [rn_fix]; simp only [stp, ptf]; rw [if_pos ⟨h1, by decide, h2⟩]; rfl
theorem P_511 (a : Nat) (x : Nat) (h1 : kd h a = 5) (h2 : 2 ≤ a) : rn k μ (.putfield 511 :: cs) ls (.ref x :: .ref a :: st) h = rn k μ cs ls st (sR h a 11 (.ref x)) := by
  rw [rn_fix]; simp only [stp, ptf]; rw [if_pos ⟨h1, by decide, h2⟩]; rfl
theorem P_512 (a : Nat) (x : Int32) (h1 : kd h a = 5) (h2 : 2 ≤ a) : rn k μ (.putfield 512 :: cs) ls (.int x :: .ref a :: st) h = rn k μ cs ls st (sI h a 12 x) := by
  rw [rn_fix]; simp only [stp, ptf]; rw [if_pos ⟨h1, by decide, h2⟩]; rfl
theorem P_513 (a : Nat) (x : Int32) (h1 : kd h a = 5) (h2 : 2 ≤ a) : rn k μ (.putfield 513 :: cs) ls (.int x :: .ref a :: st) h = rn k μ cs ls st (sI h a 13 x) := by
  rw [rn_fix]; simp only [stp, ptf]; rw [if_pos ⟨h1, by decide, h2⟩]; rfl
theorem P_514 (a : Nat) (x : Int32) (h1 : kd h a = 5) (h2 : 2 ≤ a) : rn k μ (.putfield 514 :: cs) ls (.int x :: .ref a :: st) h = rn k μ cs ls st (sI h a 14 x) := by
  rw [rn_fix]; simp only [stp, ptf]; rw [if_pos ⟨h1, by decide, h2⟩]; rfl
theorem P_515 (a : Nat) (x : Int32) (h1 : kd h a = 5) (h2 : 2 ≤ a) : rn k μ (.putfield 515 :: cs) ls (.int x :: .ref a :: st) h = rn k μ cs ls st (sI h a 15 x) := by
  rw [rn_fix]; simp only [stp, ptf]; rw [if_pos ⟨h1, by decide, h2⟩]; rfl
theorem P_516 (a : Nat) (x : Int32) (h1 : kd h a = 5) (h2 : 2 ≤ a) : rn k μ (.putfield 516 :: cs) ls (.int x :: .ref a :: st) h = rn k μ cs ls st (sI h a 16 x) := by
  rw [rn_fix]; simp only [stp, ptf]; rw [if_pos ⟨h1, by decide, h2⟩]; rfl
theorem P_517 (a : Nat) (x : Int32) (h1 : kd h a = 5) (h2 : 2 ≤ a) : rn k μ (.putfield 517 :: cs) ls (.int x :: .ref a :: st) h = rn k μ cs ls st (sI h a 17 x) := by
  rw [rn_fix]; simp only [stp, ptf]; rw [if_pos ⟨h1, by decide, h2⟩]; rfl
theorem P_600 (a : Nat) (x : Nat) (h1 : kd h a = 6) (h2 : 2 ≤ a) : rn k μ (.putfield 600 :: cs) ls (.ref x :: .ref a :: st) h = rn k μ cs ls st (sR h a 0 (.ref x)) := by
  rw [rn_fix]; simp only [stp, ptf]; rw [if_pos ⟨h1, by decide, h2⟩]; rfl
theorem P_601 (a : Nat) (x : Nat) (h1 : kd h a = 6) (h2 : 2 ≤ a) : rn k μ (.putfield 601 :: cs) ls (.ref x :: .ref a :: st) h = rn k μ cs ls st (sR h a 1 (.ref x)) := by
  rw [rn_fix]; simp only [stp, ptf]; rw [if_pos ⟨h1, by decide, h2⟩]; rfl
theorem P_602 (a : Nat) (x : Int32) (h1 : kd h a = 6) (h2 : 2 ≤ a) : rn k μ (.putfield 602 :: cs) ls (.int x :: .ref a :: st) h = rn k μ cs ls st (sI h a 2 x) := by
  rw [rn_fix]; simp only [stp, ptf]; rw [if_pos ⟨h1, by decide, h2⟩]; rfl
theorem P_603 (a : Nat) (x : Int32) (h1 : kd h a = 6) (h2 : 2 ≤ a) : rn k μ (.putfield 603 :: cs) ls (.int x :: .ref a :: st) h = rn k μ cs ls st (sI h a 3 x) := by
  rw [rn_fix]; simp only [stp, ptf]; rw [if_pos ⟨h1, by decide, h2⟩]; rfl
theorem P_604 (a : Nat) (x : Int32) (h1 : kd h a = 6) (h2 : 2 ≤ a) : rn k μ (.putfield 604 :: cs) ls (.int x :: .ref a :: st) h = rn k μ cs ls st (sI h a 4 x) := by
  rw [rn_fix]; simp only [stp, ptf]; rw [if_pos ⟨h1, by decide, h2⟩]; rfl
theorem P_605 (a : Nat) (x : Int32) (h1 : kd h a = 6) (h2 : 2 ≤ a) : rn k μ (.putfield 605 :: cs) ls (.int x :: .ref a :: st) h = rn k μ cs ls st (sI h a 5 x) := by
  rw [rn_fix]; simp only [stp, ptf]; rw [if_pos ⟨h1, by decide, h2⟩]; rfl
theorem P_700 (a : Nat) (x : Nat) (h1 : kd h a = 7) (h2 : 2 ≤ a) : rn k μ (.putfield 700 :: cs) ls (.ref x :: .ref a :: st) h = rn k μ cs ls st (sR h a 0 (.ref x)) := by
  rw [rn_fix]; simp only [stp, ptf]; rw [if_pos ⟨h1, by decide, h2⟩]; rfl
theorem P_701 (a : Nat) (x : Nat) (h1 : kd h a = 7) (h2 : 2 ≤ a) : rn k μ (.putfield 701 :: cs) ls (.ref x :: .ref a :: st) h = rn k μ cs ls st (sR h a 1 (.ref x)) := by
  rw [rn_fix]; simp only [stp, ptf]; rw [if_pos ⟨h1, by decide, h2⟩]; rfl
theorem P_702 (a : Nat) (x : Nat) (h1 : kd h a = 7) (h2 : 2 ≤ a) : rn k μ (.putfield 702 :: cs) ls (.ref x :: .ref a :: st) h = rn k μ cs ls st (sR h a 2 (.ref x)) := by
  rw [rn_fix]; simp only [stp, ptf]; rw [if_pos ⟨h1, by decide, h2⟩]; rfl
theorem P_703 (a : Nat) (x : Int32) (h1 : kd h a = 7) (h2 : 2 ≤ a) : rn k μ (.putfield 703 :: cs) ls (.int x :: .ref a :: st) h = rn k μ cs ls st (sI h a 3 x) := by
  rw [rn_fix]; simp only [stp, ptf]; rw [if_pos ⟨h1, by decide, h2⟩]; rfl
theorem P_704 (a : Nat) (x : Int32) (h1 : kd h a = 7) (h2 : 2 ≤ a) : rn k μ (.putfield 704 :: cs) ls (.int x :: .ref a :: st) h = rn k μ cs ls st (sI h a 4 x) := by
  rw [rn_fix]; simp only [stp, ptf]; rw [if_pos ⟨h1, by decide, h2⟩]; rfl
theorem P_705 (a : Nat) (x : Int32) (h1 : kd h a = 7) (h2 : 2 ≤ a) : rn k μ (.putfield 705 :: cs) ls (.int x :: .ref a :: st) h = rn k μ cs ls st (sI h a 5 x) := by
  rw [rn_fix]; simp only [stp, ptf]; rw [if_pos ⟨h1, by decide, h2⟩]; rfl
theorem P_706 (a : Nat) (x : Int32) (h1 : kd h a = 7) (h2 : 2 ≤ a) : rn k μ (.putfield 706 :: cs) ls (.int x :: .ref a :: st) h = rn k μ cs ls st (sI h a 6 x) := by
  rw [rn_fix]; simp only [stp, ptf]; rw [if_pos ⟨h1, by decide, h2⟩]; rfl
theorem P_800 (a : Nat) (x : Nat) (h1 : kd h a = 8) (h2 : 2 ≤ a) : rn k μ (.putfield 800 :: cs) ls (.ref x :: .ref a :: st) h = rn k μ cs ls st (sR h a 0 (.ref x)) := by
  rw [rn_fix]; simp only [stp, ptf]; rw [if_pos ⟨h1, by decide, h2⟩]; rfl
theorem P_801 (a : Nat) (x : Nat) (h1 : kd h a = 8) (h2 : 2 ≤ a) : rn k μ (.putfield 801 :: cs) ls (.ref x :: .ref a :: st) h = rn k μ cs ls st (sR h a 1 (.ref x)) := by
  rw [rn_fix]; simp only [stp, ptf]; rw [if_pos ⟨h1, by decide, h2⟩]; rfl
theorem P_802 (a : Nat) (x : Int32) (h1 : kd h a = 8) (h2 : 2 ≤ a) : rn k μ (.putfield 802 :: cs) ls (.int x :: .ref a :: st) h = rn k μ cs ls st (sI h a 2 x) := by
  rw [rn_fix]; simp only [stp, ptf]; rw [if_pos ⟨h1, by decide, h2⟩]; rfl
theorem P_803 (a : Nat) (x : Int32) (h1 : kd h a = 8) (h2 : 2 ≤ a) : rn k μ (.putfield 803 :: cs) ls (.int x :: .ref a :: st) h = rn k μ cs ls st (sI h a 3 x) := by
  rw [rn_fix]; simp only [stp, ptf]; rw [if_pos ⟨h1, by decide, h2⟩]; rfl
theorem P_804 (a : Nat) (x : Int32) (h1 : kd h a = 8) (h2 : 2 ≤ a) : rn k μ (.putfield 804 :: cs) ls (.int x :: .ref a :: st) h = rn k μ cs ls st (sI h a 4 x) := by
  rw [rn_fix]; simp only [stp, ptf]; rw [if_pos ⟨h1, by decide, h2⟩]; rfl
theorem P_805 (a : Nat) (x : Int32) (h1 : kd h a = 8) (h2 : 2 ≤ a) : rn k μ (.putfield 805 :: cs) ls (.int x :: .ref a :: st) h = rn k μ cs ls st (sI h a 5 x) := by
  rw [rn_fix]; simp only [stp, ptf]; rw [if_pos ⟨h1, by decide, h2⟩]; rfl
theorem P_900 (a : Nat) (x : Nat) (h1 : kd h a = 9) (h2 : 2 ≤ a) : rn k μ (.putfield 900 :: cs) ls (.ref x :: .ref a :: st) h = rn k μ cs ls st (sR h a 0 (.ref x)) := by
  rw [rn_fix]; simp only [stp, ptf]; rw [if_pos ⟨h1, by decide, h2⟩]; rfl
theorem P_901 (a : Nat) (x : Int32) (h1 : kd h a = 9) (h2 : 2 ≤ a) : rn k μ (.putfield 901 :: cs) ls (.int x :: .ref a :: st) h = rn k μ cs ls st (sI h a 1 x) := by
  rw [rn_fix]; simp only [stp, ptf]; rw [if_pos ⟨h1, by decide, h2⟩]; rfl
theorem P_902 (a : Nat) (x : Int32) (h1 : kd h a = 9) (h2 : 2 ≤ a) : rn k μ (.putfield 902 :: cs) ls (.int x :: .ref a :: st) h = rn k μ cs ls st (sI h a 2 x) := by
  rw [rn_fix]; simp only [stp, ptf]; rw [if_pos ⟨h1, by decide, h2⟩]; rfl
theorem P_903 (a : Nat) (x : Int32) (h1 : kd h a = 9) (h2 : 2 ≤ a) : rn k μ (.putfield 903 :: cs) ls (.int x :: .ref a :: st) h = rn k μ cs ls st (sI h a 3 x) := by
  rw [rn_fix]; simp only [stp, ptf]; rw [if_pos ⟨h1, by decide, h2⟩]; rfl
theorem P_904 (a : Nat) (x : Int32) (h1 : kd h a = 9) (h2 : 2 ≤ a) : rn k μ (.putfield 904 :: cs) ls (.int x :: .ref a :: st) h = rn k μ cs ls st (sI h a 4 x) := by
  rw [rn_fix]; simp only [stp, ptf]; rw [if_pos ⟨h1, by decide, h2⟩]; rfl
theorem P_905 (a : Nat) (x : Int64) (h1 : kd h a = 9) (h2 : 2 ≤ a) : rn k μ (.putfield 905 :: cs) ls (.long x :: .ref a :: st) h = rn k μ cs ls st (sL h a 5 x) := by
  rw [rn_fix]; simp only [stp, ptf]; rw [if_pos ⟨h1, by decide, h2⟩]; rfl
theorem P_906 (a : Nat) (x : Int32) (h1 : kd h a = 9) (h2 : 2 ≤ a) : rn k μ (.putfield 906 :: cs) ls (.int x :: .ref a :: st) h = rn k μ cs ls st (sI h a 6 x) := by
  rw [rn_fix]; simp only [stp, ptf]; rw [if_pos ⟨h1, by decide, h2⟩]; rfl
theorem P_1000 (a : Nat) (x : Nat) (h1 : kd h a = 10) (h2 : 2 ≤ a) : rn k μ (.putfield 1000 :: cs) ls (.ref x :: .ref a :: st) h = rn k μ cs ls st (sR h a 0 (.ref x)) := by
  rw [rn_fix]; simp only [stp, ptf]; rw [if_pos ⟨h1, by decide, h2⟩]; rfl
theorem P_1001 (a : Nat) (x : Nat) (h1 : kd h a = 10) (h2 : 2 ≤ a) : rn k μ (.putfield 1001 :: cs) ls (.ref x :: .ref a :: st) h = rn k μ cs ls st (sR h a 1 (.ref x)) := by
  rw [rn_fix]; simp only [stp, ptf]; rw [if_pos ⟨h1, by decide, h2⟩]; rfl
theorem P_1002 (a : Nat) (x : Int32) (h1 : kd h a = 10) (h2 : 2 ≤ a) : rn k μ (.putfield 1002 :: cs) ls (.int x :: .ref a :: st) h = rn k μ cs ls st (sI h a 2 x) := by
  rw [rn_fix]; simp only [stp, ptf]; rw [if_pos ⟨h1, by decide, h2⟩]; rfl
theorem P_1100 (a : Nat) (x : Nat) (h1 : kd h a = 11) (h2 : 2 ≤ a) : rn k μ (.putfield 1100 :: cs) ls (.ref x :: .ref a :: st) h = rn k μ cs ls st (sR h a 0 (.ref x)) := by
  rw [rn_fix]; simp only [stp, ptf]; rw [if_pos ⟨h1, by decide, h2⟩]; rfl
theorem P_1101 (a : Nat) (x : Nat) (h1 : kd h a = 11) (h2 : 2 ≤ a) : rn k μ (.putfield 1101 :: cs) ls (.ref x :: .ref a :: st) h = rn k μ cs ls st (sR h a 1 (.ref x)) := by
  rw [rn_fix]; simp only [stp, ptf]; rw [if_pos ⟨h1, by decide, h2⟩]; rfl
theorem P_1102 (a : Nat) (x : Nat) (h1 : kd h a = 11) (h2 : 2 ≤ a) : rn k μ (.putfield 1102 :: cs) ls (.ref x :: .ref a :: st) h = rn k μ cs ls st (sR h a 2 (.ref x)) := by
  rw [rn_fix]; simp only [stp, ptf]; rw [if_pos ⟨h1, by decide, h2⟩]; rfl
theorem P_1103 (a : Nat) (x : Nat) (h1 : kd h a = 11) (h2 : 2 ≤ a) : rn k μ (.putfield 1103 :: cs) ls (.ref x :: .ref a :: st) h = rn k μ cs ls st (sR h a 3 (.ref x)) := by
  rw [rn_fix]; simp only [stp, ptf]; rw [if_pos ⟨h1, by decide, h2⟩]; rfl
theorem P_1104 (a : Nat) (x : Nat) (h1 : kd h a = 11) (h2 : 2 ≤ a) : rn k μ (.putfield 1104 :: cs) ls (.ref x :: .ref a :: st) h = rn k μ cs ls st (sR h a 4 (.ref x)) := by
  rw [rn_fix]; simp only [stp, ptf]; rw [if_pos ⟨h1, by decide, h2⟩]; rfl
theorem P_1105 (a : Nat) (x : Nat) (h1 : kd h a = 11) (h2 : 2 ≤ a) : rn k μ (.putfield 1105 :: cs) ls (.ref x :: .ref a :: st) h = rn k μ cs ls st (sR h a 5 (.ref x)) := by
  rw [rn_fix]; simp only [stp, ptf]; rw [if_pos ⟨h1, by decide, h2⟩]; rfl
theorem P_1106 (a : Nat) (x : Nat) (h1 : kd h a = 11) (h2 : 2 ≤ a) : rn k μ (.putfield 1106 :: cs) ls (.ref x :: .ref a :: st) h = rn k μ cs ls st (sR h a 6 (.ref x)) := by
  rw [rn_fix]; simp only [stp, ptf]; rw [if_pos ⟨h1, by decide, h2⟩]; rfl
theorem P_1107 (a : Nat) (x : Nat) (h1 : kd h a = 11) (h2 : 2 ≤ a) : rn k μ (.putfield 1107 :: cs) ls (.ref x :: .ref a :: st) h = rn k μ cs ls st (sR h a 7 (.ref x)) := by
  rw [rn_fix]; simp only [stp, ptf]; rw [if_pos ⟨h1, by decide, h2⟩]; rfl
theorem P_1108 (a : Nat) (x : Nat) (h1 : kd h a = 11) (h2 : 2 ≤ a) : rn k μ (.putfield 1108 :: cs) ls (.ref x :: .ref a :: st) h = rn k μ cs ls st (sR h a 8 (.ref x)) := by
  rw [rn_fix]; simp only [stp, ptf]; rw [if_pos ⟨h1, by decide, h2⟩]; rfl
theorem P_1109 (a : Nat) (x : Nat) (h1 : kd h a = 11) (h2 : 2 ≤ a) : rn k μ (.putfield 1109 :: cs) ls (.ref x :: .ref a :: st) h = rn k μ cs ls st (sR h a 9 (.ref x)) := by
  rw [rn_fix]; simp only [stp, ptf]; rw [if_pos ⟨h1, by decide, h2⟩]; rfl
theorem P_1200 (a : Nat) (x : Nat) (h1 : kd h a = 12) (h2 : 2 ≤ a) : rn k μ (.putfield 1200 :: cs) ls (.ref x :: .ref a :: st) h = rn k μ cs ls st (sR h a 0 (.ref x)) := by
  rw [rn_fix]; simp only [stp, ptf]; rw [if_pos ⟨h1, by decide, h2⟩]; rfl
theorem P_1201 (a : Nat) (x : Int32) (h1 : kd h a = 12) (h2 : 2 ≤ a) : rn k μ (.putfield 1201 :: cs) ls (.int x :: .ref a :: st) h = rn k μ cs ls st (sI h a 1 x) := by
  rw [rn_fix]; simp only [stp, ptf]; rw [if_pos ⟨h1, by decide, h2⟩]; rfl
theorem P_1202 (a : Nat) (x : Int32) (h1 : kd h a = 12) (h2 : 2 ≤ a) : rn k μ (.putfield 1202 :: cs) ls (.int x :: .ref a :: st) h = rn k μ cs ls st (sI h a 2 x) := by
  rw [rn_fix]; simp only [stp, ptf]; rw [if_pos ⟨h1, by decide, h2⟩]; rfl
theorem P_1203 (a : Nat) (x : Int32) (h1 : kd h a = 12) (h2 : 2 ≤ a) : rn k μ (.putfield 1203 :: cs) ls (.int x :: .ref a :: st) h = rn k μ cs ls st (sI h a 3 x) := by
  rw [rn_fix]; simp only [stp, ptf]; rw [if_pos ⟨h1, by decide, h2⟩]; rfl
theorem P_1204 (a : Nat) (x : Int32) (h1 : kd h a = 12) (h2 : 2 ≤ a) : rn k μ (.putfield 1204 :: cs) ls (.int x :: .ref a :: st) h = rn k μ cs ls st (sI h a 4 x) := by
  rw [rn_fix]; simp only [stp, ptf]; rw [if_pos ⟨h1, by decide, h2⟩]; rfl
theorem P_1205 (a : Nat) (x : Int32) (h1 : kd h a = 12) (h2 : 2 ≤ a) : rn k μ (.putfield 1205 :: cs) ls (.int x :: .ref a :: st) h = rn k μ cs ls st (sI h a 5 x) := by
  rw [rn_fix]; simp only [stp, ptf]; rw [if_pos ⟨h1, by decide, h2⟩]; rfl
theorem P_1206 (a : Nat) (x : Int32) (h1 : kd h a = 12) (h2 : 2 ≤ a) : rn k μ (.putfield 1206 :: cs) ls (.int x :: .ref a :: st) h = rn k μ cs ls st (sI h a 6 x) := by
  rw [rn_fix]; simp only [stp, ptf]; rw [if_pos ⟨h1, by decide, h2⟩]; rfl
theorem P_1207 (a : Nat) (x : Int32) (h1 : kd h a = 12) (h2 : 2 ≤ a) : rn k μ (.putfield 1207 :: cs) ls (.int x :: .ref a :: st) h = rn k μ cs ls st (sI h a 7 x) := by
  rw [rn_fix]; simp only [stp, ptf]; rw [if_pos ⟨h1, by decide, h2⟩]; rfl
theorem P_1208 (a : Nat) (x : Int32) (h1 : kd h a = 12) (h2 : 2 ≤ a) : rn k μ (.putfield 1208 :: cs) ls (.int x :: .ref a :: st) h = rn k μ cs ls st (sI h a 8 x) := by
  rw [rn_fix]; simp only [stp, ptf]; rw [if_pos ⟨h1, by decide, h2⟩]; rfl
theorem P_1209 (a : Nat) (x : Int64) (h1 : kd h a = 12) (h2 : 2 ≤ a) : rn k μ (.putfield 1209 :: cs) ls (.long x :: .ref a :: st) h = rn k μ cs ls st (sL h a 9 x) := by
  rw [rn_fix]; simp only [stp, ptf]; rw [if_pos ⟨h1, by decide, h2⟩]; rfl
theorem P_1210 (a : Nat) (x : Nat) (h1 : kd h a = 12) (h2 : 2 ≤ a) : rn k μ (.putfield 1210 :: cs) ls (.ref x :: .ref a :: st) h = rn k μ cs ls st (sR h a 10 (.ref x)) := by
  rw [rn_fix]; simp only [stp, ptf]; rw [if_pos ⟨h1, by decide, h2⟩]; rfl
theorem P_1211 (a : Nat) (x : Nat) (h1 : kd h a = 12) (h2 : 2 ≤ a) : rn k μ (.putfield 1211 :: cs) ls (.ref x :: .ref a :: st) h = rn k μ cs ls st (sR h a 11 (.ref x)) := by
  rw [rn_fix]; simp only [stp, ptf]; rw [if_pos ⟨h1, by decide, h2⟩]; rfl
theorem P_1212 (a : Nat) (x : Nat) (h1 : kd h a = 12) (h2 : 2 ≤ a) : rn k μ (.putfield 1212 :: cs) ls (.ref x :: .ref a :: st) h = rn k μ cs ls st (sR h a 12 (.ref x)) := by
  rw [rn_fix]; simp only [stp, ptf]; rw [if_pos ⟨h1, by decide, h2⟩]; rfl
theorem P_1213 (a : Nat) (x : Nat) (h1 : kd h a = 12) (h2 : 2 ≤ a) : rn k μ (.putfield 1213 :: cs) ls (.ref x :: .ref a :: st) h = rn k μ cs ls st (sR h a 13 (.ref x)) := by
  rw [rn_fix]; simp only [stp, ptf]; rw [if_pos ⟨h1, by decide, h2⟩]; rfl
theorem P_1214 (a : Nat) (x : Nat) (h1 : kd h a = 12) (h2 : 2 ≤ a) : rn k μ (.putfield 1214 :: cs) ls (.ref x :: .ref a :: st) h = rn k μ cs ls st (sR h a 14 (.ref x)) := by
  rw [rn_fix]; simp only [stp, ptf]; rw [if_pos ⟨h1, by decide, h2⟩]; rfl
theorem P_1215 (a : Nat) (x : Nat) (h1 : kd h a = 12) (h2 : 2 ≤ a) : rn k μ (.putfield 1215 :: cs) ls (.ref x :: .ref a :: st) h = rn k μ cs ls st (sR h a 15 (.ref x)) := by
  rw [rn_fix]; simp only [stp, ptf]; rw [if_pos ⟨h1, by decide, h2⟩]; rfl
theorem P_1216 (a : Nat) (x : Nat) (h1 : kd h a = 12) (h2 : 2 ≤ a) : rn k μ (.putfield 1216 :: cs) ls (.ref x :: .ref a :: st) h = rn k μ cs ls st (sR h a 16 (.ref x)) := by
  rw [rn_fix]; simp only [stp, ptf]; rw [if_pos ⟨h1, by decide, h2⟩]; rfl
theorem P_1217 (a : Nat) (x : Nat) (h1 : kd h a = 12) (h2 : 2 ≤ a) : rn k μ (.putfield 1217 :: cs) ls (.ref x :: .ref a :: st) h = rn k μ cs ls st (sR h a 17 (.ref x)) := by
  rw [rn_fix]; simp only [stp, ptf]; rw [if_pos ⟨h1, by decide, h2⟩]; rfl
theorem P_1218 (a : Nat) (x : Nat) (h1 : kd h a = 12) (h2 : 2 ≤ a) : rn k μ (.putfield 1218 :: cs) ls (.ref x :: .ref a :: st) h = rn k μ cs ls st (sR h a 18 (.ref x)) := by
  rw [rn_fix]; simp only [stp, ptf]; rw [if_pos ⟨h1, by decide, h2⟩]; rfl
theorem P_1219 (a : Nat) (x : Int32) (h1 : kd h a = 12) (h2 : 2 ≤ a) : rn k μ (.putfield 1219 :: cs) ls (.int x :: .ref a :: st) h = rn k μ cs ls st (sI h a 19 x) := by
  rw [rn_fix]; simp only [stp, ptf]; rw [if_pos ⟨h1, by decide, h2⟩]; rfl
theorem P_1220 (a : Nat) (x : Int32) (h1 : kd h a = 12) (h2 : 2 ≤ a) : rn k μ (.putfield 1220 :: cs) ls (.int x :: .ref a :: st) h = rn k μ cs ls st (sI h a 20 x) := by
  rw [rn_fix]; simp only [stp, ptf]; rw [if_pos ⟨h1, by decide, h2⟩]; rfl
theorem P_1221 (a : Nat) (x : Int32) (h1 : kd h a = 12) (h2 : 2 ≤ a) : rn k μ (.putfield 1221 :: cs) ls (.int x :: .ref a :: st) h = rn k μ cs ls st (sI h a 21 x) := by
  rw [rn_fix]; simp only [stp, ptf]; rw [if_pos ⟨h1, by decide, h2⟩]; rfl
theorem P_1222 (a : Nat) (x : Int32) (h1 : kd h a = 12) (h2 : 2 ≤ a) : rn k μ (.putfield 1222 :: cs) ls (.int x :: .ref a :: st) h = rn k μ cs ls st (sI h a 22 x) := by
  rw [rn_fix]; simp only [stp, ptf]; rw [if_pos ⟨h1, by decide, h2⟩]; rfl
theorem P_1223 (a : Nat) (x : Int32) (h1 : kd h a = 12) (h2 : 2 ≤ a) : rn k μ (.putfield 1223 :: cs) ls (.int x :: .ref a :: st) h = rn k μ cs ls st (sI h a 23 x) := by
  rw [rn_fix]; simp only [stp, ptf]; rw [if_pos ⟨h1, by decide, h2⟩]; rfl
theorem P_1224 (a : Nat) (x : Int32) (h1 : kd h a = 12) (h2 : 2 ≤ a) : rn k μ (.putfield 1224 :: cs) ls (.int x :: .ref a :: st) h = rn k μ cs ls st (sI h a 24 x) := by
  rw [rn_fix]; simp only [stp, ptf]; rw [if_pos ⟨h1, by decide, h2⟩]; rfl
theorem P_1225 (a : Nat) (x : Nat) (h1 : kd h a = 12) (h2 : 2 ≤ a) : rn k μ (.putfield 1225 :: cs) ls (.ref x :: .ref a :: st) h = rn k μ cs ls st (sR h a 25 (.ref x)) := by
  rw [rn_fix]; simp only [stp, ptf]; rw [if_pos ⟨h1, by decide, h2⟩]; rfl
theorem P_1226 (a : Nat) (x : Nat) (h1 : kd h a = 12) (h2 : 2 ≤ a) : rn k μ (.putfield 1226 :: cs) ls (.ref x :: .ref a :: st) h = rn k μ cs ls st (sR h a 26 (.ref x)) := by
  rw [rn_fix]; simp only [stp, ptf]; rw [if_pos ⟨h1, by decide, h2⟩]; rfl
theorem P_1227 (a : Nat) (x : Nat) (h1 : kd h a = 12) (h2 : 2 ≤ a) : rn k μ (.putfield 1227 :: cs) ls (.ref x :: .ref a :: st) h = rn k μ cs ls st (sR h a 27 (.ref x)) := by
  rw [rn_fix]; simp only [stp, ptf]; rw [if_pos ⟨h1, by decide, h2⟩]; rfl
theorem P_1228 (a : Nat) (x : Nat) (h1 : kd h a = 12) (h2 : 2 ≤ a) : rn k μ (.putfield 1228 :: cs) ls (.ref x :: .ref a :: st) h = rn k μ cs ls st (sR h a 28 (.ref x)) := by
  rw [rn_fix]; simp only [stp, ptf]; rw [if_pos ⟨h1, by decide, h2⟩]; rfl
theorem P_1229 (a : Nat) (x : Nat) (h1 : kd h a = 12) (h2 : 2 ≤ a) : rn k μ (.putfield 1229 :: cs) ls (.ref x :: .ref a :: st) h = rn k μ cs ls st (sR h a 29 (.ref x)) := by
  rw [rn_fix]; simp only [stp, ptf]; rw [if_pos ⟨h1, by decide, h2⟩]; rfl
theorem P_1230 (a : Nat) (x : Nat) (h1 : kd h a = 12) (h2 : 2 ≤ a) : rn k μ (.putfield 1230 :: cs) ls (.ref x :: .ref a :: st) h = rn k μ cs ls st (sR h a 30 (.ref x)) := by
  rw [rn_fix]; simp only [stp, ptf]; rw [if_pos ⟨h1, by decide, h2⟩]; rfl
theorem P_1231 (a : Nat) (x : Nat) (h1 : kd h a = 12) (h2 : 2 ≤ a) : rn k μ (.putfield 1231 :: cs) ls (.ref x :: .ref a :: st) h = rn k μ cs ls st (sR h a 31 (.ref x)) := by
  rw [rn_fix]; simp only [stp, ptf]; rw [if_pos ⟨h1, by decide, h2⟩]; rfl
theorem P_1232 (a : Nat) (x : Nat) (h1 : kd h a = 12) (h2 : 2 ≤ a) : rn k μ (.putfield 1232 :: cs) ls (.ref x :: .ref a :: st) h = rn k μ cs ls st (sR h a 32 (.ref x)) := by
  rw [rn_fix]; simp only [stp, ptf]; rw [if_pos ⟨h1, by decide, h2⟩]; rfl
theorem P_1233 (a : Nat) (x : Nat) (h1 : kd h a = 12) (h2 : 2 ≤ a) : rn k μ (.putfield 1233 :: cs) ls (.ref x :: .ref a :: st) h = rn k μ cs ls st (sR h a 33 (.ref x)) := by
  rw [rn_fix]; simp only [stp, ptf]; rw [if_pos ⟨h1, by decide, h2⟩]; rfl
theorem P_1234 (a : Nat) (x : Nat) (h1 : kd h a = 12) (h2 : 2 ≤ a) : rn k μ (.putfield 1234 :: cs) ls (.ref x :: .ref a :: st) h = rn k μ cs ls st (sR h a 34 (.ref x)) := by
  rw [rn_fix]; simp only [stp, ptf]; rw [if_pos ⟨h1, by decide, h2⟩]; rfl
theorem P_1235 (a : Nat) (x : Nat) (h1 : kd h a = 12) (h2 : 2 ≤ a) : rn k μ (.putfield 1235 :: cs) ls (.ref x :: .ref a :: st) h = rn k μ cs ls st (sR h a 35 (.ref x)) := by
  rw [rn_fix]; simp only [stp, ptf]; rw [if_pos ⟨h1, by decide, h2⟩]; rfl
theorem P_1236 (a : Nat) (x : Nat) (h1 : kd h a = 12) (h2 : 2 ≤ a) : rn k μ (.putfield 1236 :: cs) ls (.ref x :: .ref a :: st) h = rn k μ cs ls st (sR h a 36 (.ref x)) := by
  rw [rn_fix]; simp only [stp, ptf]; rw [if_pos ⟨h1, by decide, h2⟩]; rfl
theorem P_1237 (a : Nat) (x : Nat) (h1 : kd h a = 12) (h2 : 2 ≤ a) : rn k μ (.putfield 1237 :: cs) ls (.ref x :: .ref a :: st) h = rn k μ cs ls st (sR h a 37 (.ref x)) := by
  rw [rn_fix]; simp only [stp, ptf]; rw [if_pos ⟨h1, by decide, h2⟩]; rfl
theorem P_1238 (a : Nat) (x : Nat) (h1 : kd h a = 12) (h2 : 2 ≤ a) : rn k μ (.putfield 1238 :: cs) ls (.ref x :: .ref a :: st) h = rn k μ cs ls st (sR h a 38 (.ref x)) := by
  rw [rn_fix]; simp only [stp, ptf]; rw [if_pos ⟨h1, by decide, h2⟩]; rfl
theorem P_1239 (a : Nat) (x : Nat) (h1 : kd h a = 12) (h2 : 2 ≤ a) : rn k μ (.putfield 1239 :: cs) ls (.ref x :: .ref a :: st) h = rn k μ cs ls st (sR h a 39 (.ref x)) := by
  rw [rn_fix]; simp only [stp, ptf]; rw [if_pos ⟨h1, by decide, h2⟩]; rfl
theorem P_1240 (a : Nat) (x : Int32) (h1 : kd h a = 12) (h2 : 2 ≤ a) : rn k μ (.putfield 1240 :: cs) ls (.int x :: .ref a :: st) h = rn k μ cs ls st (sI h a 40 x) := by
  rw [rn_fix]; simp only [stp, ptf]; rw [if_pos ⟨h1, by decide, h2⟩]; rfl
theorem P_1241 (a : Nat) (x : Int32) (h1 : kd h a = 12) (h2 : 2 ≤ a) : rn k μ (.putfield 1241 :: cs) ls (.int x :: .ref a :: st) h = rn k μ cs ls st (sI h a 41 x) := by
  rw [rn_fix]; simp only [stp, ptf]; rw [if_pos ⟨h1, by decide, h2⟩]; rfl
theorem P_1242 (a : Nat) (x : Int32) (h1 : kd h a = 12) (h2 : 2 ≤ a) : rn k μ (.putfield 1242 :: cs) ls (.int x :: .ref a :: st) h = rn k μ cs ls st (sI h a 42 x) := by
  rw [rn_fix]; simp only [stp, ptf]; rw [if_pos ⟨h1, by decide, h2⟩]; rfl
theorem P_1243 (a : Nat) (x : Int32) (h1 : kd h a = 12) (h2 : 2 ≤ a) : rn k μ (.putfield 1243 :: cs) ls (.int x :: .ref a :: st) h = rn k μ cs ls st (sI h a 43 x) := by
  rw [rn_fix]; simp only [stp, ptf]; rw [if_pos ⟨h1, by decide, h2⟩]; rfl
theorem P_1244 (a : Nat) (x : Int32) (h1 : kd h a = 12) (h2 : 2 ≤ a) : rn k μ (.putfield 1244 :: cs) ls (.int x :: .ref a :: st) h = rn k μ cs ls st (sI h a 44 x) := by
  rw [rn_fix]; simp only [stp, ptf]; rw [if_pos ⟨h1, by decide, h2⟩]; rfl
theorem P_1245 (a : Nat) (x : Int32) (h1 : kd h a = 12) (h2 : 2 ≤ a) : rn k μ (.putfield 1245 :: cs) ls (.int x :: .ref a :: st) h = rn k μ cs ls st (sI h a 45 x) := by
  rw [rn_fix]; simp only [stp, ptf]; rw [if_pos ⟨h1, by decide, h2⟩]; rfl
theorem P_1246 (a : Nat) (x : Int32) (h1 : kd h a = 12) (h2 : 2 ≤ a) : rn k μ (.putfield 1246 :: cs) ls (.int x :: .ref a :: st) h = rn k μ cs ls st (sI h a 46 x) := by
  rw [rn_fix]; simp only [stp, ptf]; rw [if_pos ⟨h1, by decide, h2⟩]; rfl
theorem P_1247 (a : Nat) (x : Int32) (h1 : kd h a = 12) (h2 : 2 ≤ a) : rn k μ (.putfield 1247 :: cs) ls (.int x :: .ref a :: st) h = rn k μ cs ls st (sI h a 47 x) := by
  rw [rn_fix]; simp only [stp, ptf]; rw [if_pos ⟨h1, by decide, h2⟩]; rfl
theorem P_1248 (a : Nat) (x : Int32) (h1 : kd h a = 12) (h2 : 2 ≤ a) : rn k μ (.putfield 1248 :: cs) ls (.int x :: .ref a :: st) h = rn k μ cs ls st (sI h a 48 x) := by
  rw [rn_fix]; simp only [stp, ptf]; rw [if_pos ⟨h1, by decide, h2⟩]; rfl
theorem P_1249 (a : Nat) (x : Int32) (h1 : kd h a = 12) (h2 : 2 ≤ a) : rn k μ (.putfield 1249 :: cs) ls (.int x :: .ref a :: st) h = rn k μ cs ls st (sI h a 49 x) := by
  rw [rn_fix]; simp only [stp, ptf]; rw [if_pos ⟨h1, by decide, h2⟩]; rfl
theorem P_1250 (a : Nat) (x : Int32) (h1 : kd h a = 12) (h2 : 2 ≤ a) : rn k μ (.putfield 1250 :: cs) ls (.int x :: .ref a :: st) h = rn k μ cs ls st (sI h a 50 x) := by
  rw [rn_fix]; simp only [stp, ptf]; rw [if_pos ⟨h1, by decide, h2⟩]; rfl
theorem P_1251 (a : Nat) (x : Int32) (h1 : kd h a = 12) (h2 : 2 ≤ a) : rn k μ (.putfield 1251 :: cs) ls (.int x :: .ref a :: st) h = rn k μ cs ls st (sI h a 51 x) := by
  rw [rn_fix]; simp only [stp, ptf]; rw [if_pos ⟨h1, by decide, h2⟩]; rfl
theorem P_1252 (a : Nat) (x : Int32) (h1 : kd h a = 12) (h2 : 2 ≤ a) : rn k μ (.putfield 1252 :: cs) ls (.int x :: .ref a :: st) h = rn k μ cs ls st (sI h a 52 x) := by
  rw [rn_fix]; simp only [stp, ptf]; rw [if_pos ⟨h1, by decide, h2⟩]; rfl
theorem P_1253 (a : Nat) (x : Int32) (h1 : kd h a = 12) (h2 : 2 ≤ a) : rn k μ (.putfield 1253 :: cs) ls (.int x :: .ref a :: st) h = rn k μ cs ls st (sI h a 53 x) := by
  rw [rn_fix]; simp only [stp, ptf]; rw [if_pos ⟨h1, by decide, h2⟩]; rfl
theorem P_1254 (a : Nat) (x : Int32) (h1 : kd h a = 12) (h2 : 2 ≤ a) : rn k μ (.putfield 1254 :: cs) ls (.int x :: .ref a :: st) h = rn k μ cs ls st (sI h a 54 x) := by
  rw [rn_fix]; simp only [stp, ptf]; rw [if_pos ⟨h1, by decide, h2⟩]; rfl
theorem P_1255 (a : Nat) (x : Int32) (h1 : kd h a = 12) (h2 : 2 ≤ a) : rn k μ (.putfield 1255 :: cs) ls (.int x :: .ref a :: st) h = rn k μ cs ls st (sI h a 55 x) := by
  rw [rn_fix]; simp only [stp, ptf]; rw [if_pos ⟨h1, by decide, h2⟩]; rfl
theorem P_1256 (a : Nat) (x : Int32) (h1 : kd h a = 12) (h2 : 2 ≤ a) : rn k μ (.putfield 1256 :: cs) ls (.int x :: .ref a :: st) h = rn k μ cs ls st (sI h a 56 x) := by
  rw [rn_fix]; simp only [stp, ptf]; rw [if_pos ⟨h1, by decide, h2⟩]; rfl
theorem P_1257 (a : Nat) (x : Int32) (h1 : kd h a = 12) (h2 : 2 ≤ a) : rn k μ (.putfield 1257 :: cs) ls (.int x :: .ref a :: st) h = rn k μ cs ls st (sI h a 57 x) := by
  rw [rn_fix]; simp only [stp, ptf]; rw [if_pos ⟨h1, by decide, h2⟩]; rfl
theorem P_1258 (a : Nat) (x : Int32) (h1 : kd h a = 12) (h2 : 2 ≤ a) : rn k μ (.putfield 1258 :: cs) ls (.int x :: .ref a :: st) h = rn k μ cs ls st (sI h a 58 x) := by
  rw [rn_fix]; simp only [stp, ptf]; rw [if_pos ⟨h1, by decide, h2⟩]; rfl
theorem P_1259 (a : Nat) (x : Int32) (h1 : kd h a = 12) (h2 : 2 ≤ a) (h3 : x = 0 ∨ x = 1) : rn k μ (.putfield 1259 :: cs) ls (.int x :: .ref a :: st) h = rn k μ cs ls st (sI h a 59 x) := by
  rw [rn_fix]; simp only [stp, ptf]; rw [if_pos ⟨h1, by decide, h2⟩]; show KK rn k μ (if x = 0 ∨ x = 1 then _ else _) = _; rw [if_pos h3]; rfl
theorem P_1260 (a : Nat) (x : Nat) (h1 : kd h a = 12) (h2 : 2 ≤ a) : rn k μ (.putfield 1260 :: cs) ls (.ref x :: .ref a :: st) h = rn k μ cs ls st (sR h a 60 (.ref x)) := by
  rw [rn_fix]; simp only [stp, ptf]; rw [if_pos ⟨h1, by decide, h2⟩]; rfl
theorem P_1261 (a : Nat) (x : Nat) (h1 : kd h a = 12) (h2 : 2 ≤ a) : rn k μ (.putfield 1261 :: cs) ls (.ref x :: .ref a :: st) h = rn k μ cs ls st (sR h a 61 (.ref x)) := by
  rw [rn_fix]; simp only [stp, ptf]; rw [if_pos ⟨h1, by decide, h2⟩]; rfl
theorem P_1262 (a : Nat) (x : Nat) (h1 : kd h a = 12) (h2 : 2 ≤ a) : rn k μ (.putfield 1262 :: cs) ls (.ref x :: .ref a :: st) h = rn k μ cs ls st (sR h a 62 (.ref x)) := by
  rw [rn_fix]; simp only [stp, ptf]; rw [if_pos ⟨h1, by decide, h2⟩]; rfl
theorem P_1263 (a : Nat) (x : Nat) (h1 : kd h a = 12) (h2 : 2 ≤ a) : rn k μ (.putfield 1263 :: cs) ls (.ref x :: .ref a :: st) h = rn k μ cs ls st (sR h a 63 (.ref x)) := by
  rw [rn_fix]; simp only [stp, ptf]; rw [if_pos ⟨h1, by decide, h2⟩]; rfl
theorem P_1264 (a : Nat) (x : Int32) (h1 : kd h a = 12) (h2 : 2 ≤ a) : rn k μ (.putfield 1264 :: cs) ls (.int x :: .ref a :: st) h = rn k μ cs ls st (sI h a 64 x) := by
  rw [rn_fix]; simp only [stp, ptf]; rw [if_pos ⟨h1, by decide, h2⟩]; rfl
theorem P_1265 (a : Nat) (x : Int32) (h1 : kd h a = 12) (h2 : 2 ≤ a) : rn k μ (.putfield 1265 :: cs) ls (.int x :: .ref a :: st) h = rn k μ cs ls st (sI h a 65 x) := by
  rw [rn_fix]; simp only [stp, ptf]; rw [if_pos ⟨h1, by decide, h2⟩]; rfl
theorem P_1266 (a : Nat) (x : Nat) (h1 : kd h a = 12) (h2 : 2 ≤ a) : rn k μ (.putfield 1266 :: cs) ls (.ref x :: .ref a :: st) h = rn k μ cs ls st (sR h a 66 (.ref x)) := by
  rw [rn_fix]; simp only [stp, ptf]; rw [if_pos ⟨h1, by decide, h2⟩]; rfl
theorem P_1267 (a : Nat) (x : Int32) (h1 : kd h a = 12) (h2 : 2 ≤ a) : rn k μ (.putfield 1267 :: cs) ls (.int x :: .ref a :: st) h = rn k μ cs ls st (sI h a 67 x) := by
  rw [rn_fix]; simp only [stp, ptf]; rw [if_pos ⟨h1, by decide, h2⟩]; rfl
theorem P_1268 (a : Nat) (x : Nat) (h1 : kd h a = 12) (h2 : 2 ≤ a) : rn k μ (.putfield 1268 :: cs) ls (.ref x :: .ref a :: st) h = rn k μ cs ls st (sR h a 68 (.ref x)) := by
  rw [rn_fix]; simp only [stp, ptf]; rw [if_pos ⟨h1, by decide, h2⟩]; rfl
theorem P_1269 (a : Nat) (x : Nat) (h1 : kd h a = 12) (h2 : 2 ≤ a) : rn k μ (.putfield 1269 :: cs) ls (.ref x :: .ref a :: st) h = rn k μ cs ls st (sR h a 69 (.ref x)) := by
  rw [rn_fix]; simp only [stp, ptf]; rw [if_pos ⟨h1, by decide, h2⟩]; rfl
theorem P_1270 (a : Nat) (x : Int32) (h1 : kd h a = 12) (h2 : 2 ≤ a) : rn k μ (.putfield 1270 :: cs) ls (.int x :: .ref a :: st) h = rn k μ cs ls st (sI h a 70 x) := by
  rw [rn_fix]; simp only [stp, ptf]; rw [if_pos ⟨h1, by decide, h2⟩]; rfl
theorem P_1271 (a : Nat) (x : Nat) (h1 : kd h a = 12) (h2 : 2 ≤ a) : rn k μ (.putfield 1271 :: cs) ls (.ref x :: .ref a :: st) h = rn k μ cs ls st (sR h a 71 (.ref x)) := by
  rw [rn_fix]; simp only [stp, ptf]; rw [if_pos ⟨h1, by decide, h2⟩]; rfl
theorem P_1272 (a : Nat) (x : Nat) (h1 : kd h a = 12) (h2 : 2 ≤ a) : rn k μ (.putfield 1272 :: cs) ls (.ref x :: .ref a :: st) h = rn k μ cs ls st (sR h a 72 (.ref x)) := by
  rw [rn_fix]; simp only [stp, ptf]; rw [if_pos ⟨h1, by decide, h2⟩]; rfl
theorem P_1273 (a : Nat) (x : Nat) (h1 : kd h a = 12) (h2 : 2 ≤ a) : rn k μ (.putfield 1273 :: cs) ls (.ref x :: .ref a :: st) h = rn k μ cs ls st (sR h a 73 (.ref x)) := by
  rw [rn_fix]; simp only [stp, ptf]; rw [if_pos ⟨h1, by decide, h2⟩]; rfl
theorem P_1274 (a : Nat) (x : Nat) (h1 : kd h a = 12) (h2 : 2 ≤ a) : rn k μ (.putfield 1274 :: cs) ls (.ref x :: .ref a :: st) h = rn k μ cs ls st (sR h a 74 (.ref x)) := by
  rw [rn_fix]; simp only [stp, ptf]; rw [if_pos ⟨h1, by decide, h2⟩]; rfl
theorem P_1275 (a : Nat) (x : Int32) (h1 : kd h a = 12) (h2 : 2 ≤ a) : rn k μ (.putfield 1275 :: cs) ls (.int x :: .ref a :: st) h = rn k μ cs ls st (sI h a 75 x) := by
  rw [rn_fix]; simp only [stp, ptf]; rw [if_pos ⟨h1, by decide, h2⟩]; rfl
theorem P_1276 (a : Nat) (x : Int32) (h1 : kd h a = 12) (h2 : 2 ≤ a) : rn k μ (.putfield 1276 :: cs) ls (.int x :: .ref a :: st) h = rn k μ cs ls st (sI h a 76 x) := by
  rw [rn_fix]; simp only [stp, ptf]; rw [if_pos ⟨h1, by decide, h2⟩]; rfl
theorem P_1277 (a : Nat) (x : Nat) (h1 : kd h a = 12) (h2 : 2 ≤ a) : rn k μ (.putfield 1277 :: cs) ls (.ref x :: .ref a :: st) h = rn k μ cs ls st (sR h a 77 (.ref x)) := by
  rw [rn_fix]; simp only [stp, ptf]; rw [if_pos ⟨h1, by decide, h2⟩]; rfl
theorem P_1278 (a : Nat) (x : Nat) (h1 : kd h a = 12) (h2 : 2 ≤ a) : rn k μ (.putfield 1278 :: cs) ls (.ref x :: .ref a :: st) h = rn k μ cs ls st (sR h a 78 (.ref x)) := by
  rw [rn_fix]; simp only [stp, ptf]; rw [if_pos ⟨h1, by decide, h2⟩]; rfl
theorem P_1279 (a : Nat) (x : Nat) (h1 : kd h a = 12) (h2 : 2 ≤ a) : rn k μ (.putfield 1279 :: cs) ls (.ref x :: .ref a :: st) h = rn k μ cs ls st (sR h a 79 (.ref x)) := by
  rw [rn_fix]; simp only [stp, ptf]; rw [if_pos ⟨h1, by decide, h2⟩]; rfl
theorem P_1280 (a : Nat) (x : Nat) (h1 : kd h a = 12) (h2 : 2 ≤ a) : rn k μ (.putfield 1280 :: cs) ls (.ref x :: .ref a :: st) h = rn k μ cs ls st (sR h a 80 (.ref x)) := by
  rw [rn_fix]; simp only [stp, ptf]; rw [if_pos ⟨h1, by decide, h2⟩]; rfl
theorem P_1281 (a : Nat) (x : Nat) (h1 : kd h a = 12) (h2 : 2 ≤ a) : rn k μ (.putfield 1281 :: cs) ls (.ref x :: .ref a :: st) h = rn k μ cs ls st (sR h a 81 (.ref x)) := by
  rw [rn_fix]; simp only [stp, ptf]; rw [if_pos ⟨h1, by decide, h2⟩]; rfl
theorem P_1282 (a : Nat) (x : Int32) (h1 : kd h a = 12) (h2 : 2 ≤ a) : rn k μ (.putfield 1282 :: cs) ls (.int x :: .ref a :: st) h = rn k μ cs ls st (sI h a 82 x) := by
  rw [rn_fix]; simp only [stp, ptf]; rw [if_pos ⟨h1, by decide, h2⟩]; rfl
theorem P_1283 (a : Nat) (x : Int32) (h1 : kd h a = 12) (h2 : 2 ≤ a) : rn k μ (.putfield 1283 :: cs) ls (.int x :: .ref a :: st) h = rn k μ cs ls st (sI h a 83 x) := by
  rw [rn_fix]; simp only [stp, ptf]; rw [if_pos ⟨h1, by decide, h2⟩]; rfl
theorem P_1284 (a : Nat) (x : Nat) (h1 : kd h a = 12) (h2 : 2 ≤ a) : rn k μ (.putfield 1284 :: cs) ls (.ref x :: .ref a :: st) h = rn k μ cs ls st (sR h a 84 (.ref x)) := by
  rw [rn_fix]; simp only [stp, ptf]; rw [if_pos ⟨h1, by decide, h2⟩]; rfl
theorem P_1285 (a : Nat) (x : Nat) (h1 : kd h a = 12) (h2 : 2 ≤ a) : rn k μ (.putfield 1285 :: cs) ls (.ref x :: .ref a :: st) h = rn k μ cs ls st (sR h a 85 (.ref x)) := by
  rw [rn_fix]; simp only [stp, ptf]; rw [if_pos ⟨h1, by decide, h2⟩]; rfl
theorem P_1286 (a : Nat) (x : Nat) (h1 : kd h a = 12) (h2 : 2 ≤ a) : rn k μ (.putfield 1286 :: cs) ls (.ref x :: .ref a :: st) h = rn k μ cs ls st (sR h a 86 (.ref x)) := by
  rw [rn_fix]; simp only [stp, ptf]; rw [if_pos ⟨h1, by decide, h2⟩]; rfl
theorem P_1287 (a : Nat) (x : Nat) (h1 : kd h a = 12) (h2 : 2 ≤ a) : rn k μ (.putfield 1287 :: cs) ls (.ref x :: .ref a :: st) h = rn k μ cs ls st (sR h a 87 (.ref x)) := by
  rw [rn_fix]; simp only [stp, ptf]; rw [if_pos ⟨h1, by decide, h2⟩]; rfl
end EQF
