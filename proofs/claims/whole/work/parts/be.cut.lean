/-! a run among the cells of the class is the same where the reference's are not yet made -/
def cutH (g : MH) : MH := (g.1.take 66, fun a j => if a < 66 then g.2.1 a j else 0, fun a j => if a < 66 then g.2.2.1 a j else 0, fun a j => if a < 66 then g.2.2.2 a j else .null)
theorem kd_cut {g : MH} {a : Nat} (ha : a < 66) : kd (cutH g) a = kd g a := by
  unfold kd cutH
  simp only [List.getD_eq_getElem?_getD, List.getElem?_take, if_pos ha]
theorem ln_cut {g : MH} {a : Nat} (ha : a < 66) : ln (cutH g) a = ln g a := by
  unfold ln cutH
  simp only [List.getD_eq_getElem?_getD, List.getElem?_take, if_pos ha]
theorem gI_cut {g : MH} {a j : Nat} (ha : a < 66) : gI (cutH g) a j = gI g a j := if_pos ha
theorem gL_cut {g : MH} {a j : Nat} (ha : a < 66) : gL (cutH g) a j = gL g a j := if_pos ha
theorem gR_cut {g : MH} {a j : Nat} (ha : a < 66) : gR (cutH g) a j = gR g a j := if_pos ha
theorem sI_cut {g : MH} {a k : Nat} {v : Int32} (ha : a < 66) : sI (cutH g) a k v = cutH (sI g a k v) := by
  unfold sI cutH
  refine Prod.ext rfl (Prod.ext ?_ rfl)
  funext x y
  show (if x = a ∧ y = k then v else if x < 66 then g.2.1 x y else 0) = if x < 66 then (if x = a ∧ y = k then v else g.2.1 x y) else 0
  by_cases c : x = a ∧ y = k
  · rw [if_pos c, if_pos c, if_pos (by omega)]
  · rw [if_neg c, if_neg c]
theorem sL_cut {g : MH} {a k : Nat} {v : Int64} (ha : a < 66) : sL (cutH g) a k v = cutH (sL g a k v) := by
  unfold sL cutH
  refine Prod.ext rfl (Prod.ext rfl (Prod.ext ?_ rfl))
  funext x y
  show (if x = a ∧ y = k then v else if x < 66 then g.2.2.1 x y else 0) = if x < 66 then (if x = a ∧ y = k then v else g.2.2.1 x y) else 0
  by_cases c : x = a ∧ y = k
  · rw [if_pos c, if_pos c, if_pos (by omega)]
  · rw [if_neg c, if_neg c]
theorem sR_cut {g : MH} {a k : Nat} {v : Value} (ha : a < 66) : sR (cutH g) a k v = cutH (sR g a k v) := by
  unfold sR cutH
  refine Prod.ext rfl (Prod.ext rfl (Prod.ext rfl ?_))
  funext x y
  show (if x = a ∧ y = k then v else if x < 66 then g.2.2.2 x y else .null) = if x < 66 then (if x = a ∧ y = k then v else g.2.2.2 x y) else .null
  by_cases c : x = a ∧ y = k
  · rw [if_pos c, if_pos c, if_pos (by omega)]
  · rw [if_neg c, if_neg c]
def cuV (v : Value) : Prop := ∀ b : Nat, v = .ref b → b < 66
def cuS (st : List Value) : Prop := ∀ v ∈ st, cuV v
def cuL (ls : LV) : Prop := ∀ v, some v ∈ ls → cuV v
def Cl6 (g : MH) : Prop := ∀ a j, a < 66 → cuV (gR g a j)
theorem cuV_i (x : Int32) : cuV (.int x) := fun b e => by cases e
theorem cuV_l (x : Int64) : cuV (.long x) := fun b e => by cases e
theorem cuV_r {x : Nat} (h : x < 66) : cuV (.ref x) := fun b e => by cases e; exact h
theorem cuS_h {v : Value} {st : List Value} (h : cuS (v :: st)) : cuV v := h v (List.mem_cons_self ..)
theorem cuS_t {v : Value} {st : List Value} (h : cuS (v :: st)) : cuS st := fun w hw => h w (List.mem_cons_of_mem _ hw)
theorem cuS_m {v : Value} {st : List Value} (h : cuV v) (hs : cuS st) : cuS (v :: st) := fun w hw => by
  rcases List.mem_cons.mp hw with rfl | z
  · exact h
  · exact hs w z
theorem cuS_n : cuS [] := fun w hw => absurd hw (by simp)
theorem clr_e {a : Option Value} {v : Value} (h : clr a = some v) : a = some v := by
  unfold clr at h
  split at h
  · cases h
  · cases h
  · exact h
theorem cuL_st1 {x : Int32} : ∀ (ls : LV) (i : Nat), cuL ls → cuL (st1 ls i (.int x))
  | [], _, h => h
  | _ :: l, 0, h => fun v hv => by
    rcases List.mem_cons.mp hv with z | z
    · cases z; exact cuV_i x
    · exact h v (List.mem_cons_of_mem _ z)
  | a :: l, 1, h => fun v hv => by
    rcases List.mem_cons.mp hv with z | z
    · exact h v (by rw [clr_e z.symm]; exact List.mem_cons_self ..)
    · exact cuL_st1 l 0 (fun w hw => h w (List.mem_cons_of_mem _ hw)) v z
  | a :: l, i + 2, h => fun v hv => by
    rcases List.mem_cons.mp hv with z | z
    · exact h v (by rw [z]; exact List.mem_cons_self ..)
    · exact cuL_st1 l (i + 1) (fun w hw => h w (List.mem_cons_of_mem _ hw)) v z
theorem cuL_get {ls : LV} {i : Nat} {v : Value} (h : cuL ls) (e : ls.getD i none = some v) : cuV v := by
  refine h v ?_
  rw [List.getD_eq_getElem?_getD] at e
  cases c : ls[i]? with
  | none => rw [c] at e; cases e
  | some w =>
    rw [c] at e
    have e : w = some v := e
    rw [e] at c
    exact List.mem_of_getElem? c
theorem cuL_lcs : ∀ a : List Value, cuS a → cuL (lcs a)
  | [], _ => fun v hv => absurd hv (by simp [lcs])
  | w :: a, h => fun v hv => by
    have ih := cuL_lcs a (cuS_t h)
    have hh := cuS_h h
    have k : lcs (w :: a) = some w :: lcs a ∨ lcs (w :: a) = some w :: none :: lcs a := by
      cases w <;> first | exact Or.inl rfl | exact Or.inr rfl
    rcases k with k | k <;> rw [k] at hv
    · rcases List.mem_cons.mp hv with z | z
      · cases z; exact hh
      · exact ih v z
    · rcases List.mem_cons.mp hv with z | z
      · cases z; exact hh
      · rcases List.mem_cons.mp z with y | y
        · cases y
        · exact ih v y
theorem cuL_ent {k : Nat} {a : List Value} (h : cuS a) : cuL (ent k a) := fun v hv => by
  unfold ent at hv
  rcases List.mem_append.mp hv with z | z
  · exact cuL_lcs a h v z
  · have := List.eq_of_mem_replicate z
    cases this
def cuI : IR → Bool
  | .aload_n _ => true
  | .arraylength => true
  | .bipush _ => true
  | .dup => true
  | .getfield _ => true
  | .goto _ => true
  | .goto_w _ => true
  | .i2s => true
  | .iadd => true
  | .iaload => true
  | .iand => true
  | .iastore => true
  | .iconst _ => true
  | .idiv => true
  | .ifCond _ _ => true
  | .if_icmp _ _ => true
  | .iinc _ _ => true
  | .iload _ => true
  | .iload_n _ => true
  | .imul => true
  | .ior => true
  | .irem => true
  | .ireturn => true
  | .ishl => true
  | .ishr => true
  | .istore _ => true
  | .istore_n _ => true
  | .isub => true
  | .putfield _ => true
  | .return_ => true
  | .saload => true
  | .sastore => true
  | .sipush _ => true
  | .tableswitch _ _ _ _ => true
  | .invokeinterface k _ => decide (13 ≤ k ∧ k ≤ 33)
  | _ => false
def cuB (cs : List IR) : Prop := cs.all cuI = true
theorem cuB_if {c : Prop} [Decidable c] {a b : List IR} (ha : cuB a) (hb : cuB b) : cuB (if c then a else b) := by
  split <;> assumption
theorem bo_13 (t : Nat) : cuB (bk_13 t) := by
  unfold bk_13
  repeat refine cuB_if (by unfold cuB; rfl) ?_
  unfold cuB
  rfl
theorem bo_14 (t : Nat) : cuB (bk_14 t) := by
  unfold bk_14
  repeat refine cuB_if (by unfold cuB; rfl) ?_
  unfold cuB
  rfl
theorem bo_15 (t : Nat) : cuB (bk_15 t) := by
  unfold bk_15
  repeat refine cuB_if (by unfold cuB; rfl) ?_
  unfold cuB
  rfl
theorem bo_16 (t : Nat) : cuB (bk_16 t) := by
  unfold bk_16
  repeat refine cuB_if (by unfold cuB; rfl) ?_
  unfold cuB
  rfl
theorem bo_17 (t : Nat) : cuB (bk_17 t) := by
  unfold bk_17
  repeat refine cuB_if (by unfold cuB; rfl) ?_
  unfold cuB
  rfl
theorem bo_18 (t : Nat) : cuB (bk_18 t) := by
  unfold bk_18
  repeat refine cuB_if (by unfold cuB; rfl) ?_
  unfold cuB
  rfl
theorem bo_19 (t : Nat) : cuB (bk_19 t) := by
  unfold bk_19
  repeat refine cuB_if (by unfold cuB; rfl) ?_
  unfold cuB
  rfl
theorem bo_20 (t : Nat) : cuB (bk_20 t) := by
  unfold bk_20
  repeat refine cuB_if (by unfold cuB; rfl) ?_
  unfold cuB
  rfl
theorem bo_21 (t : Nat) : cuB (bk_21 t) := by
  unfold bk_21
  repeat refine cuB_if (by unfold cuB; rfl) ?_
  unfold cuB
  rfl
theorem bo_22 (t : Nat) : cuB (bk_22 t) := by
  unfold bk_22
  repeat refine cuB_if (by unfold cuB; rfl) ?_
  unfold cuB
  rfl
theorem bo_23 (t : Nat) : cuB (bk_23 t) := by
  unfold bk_23
  repeat refine cuB_if (by unfold cuB; rfl) ?_
  unfold cuB
  rfl
theorem bo_24 (t : Nat) : cuB (bk_24 t) := by
  unfold bk_24
  repeat refine cuB_if (by unfold cuB; rfl) ?_
  unfold cuB
  rfl
theorem bo_25 (t : Nat) : cuB (bk_25 t) := by
  unfold bk_25
  repeat refine cuB_if (by unfold cuB; rfl) ?_
  unfold cuB
  rfl
theorem bo_26 (t : Nat) : cuB (bk_26 t) := by
  unfold bk_26
  repeat refine cuB_if (by unfold cuB; rfl) ?_
  unfold cuB
  rfl
theorem bo_27 (t : Nat) : cuB (bk_27 t) := by
  unfold bk_27
  repeat refine cuB_if (by unfold cuB; rfl) ?_
  unfold cuB
  rfl
theorem bo_28 (t : Nat) : cuB (bk_28 t) := by
  unfold bk_28
  repeat refine cuB_if (by unfold cuB; rfl) ?_
  unfold cuB
  rfl
theorem bo_29 (t : Nat) : cuB (bk_29 t) := by
  unfold bk_29
  repeat refine cuB_if (by unfold cuB; rfl) ?_
  unfold cuB
  rfl
theorem bo_30 (t : Nat) : cuB (bk_30 t) := by
  unfold bk_30
  repeat refine cuB_if (by unfold cuB; rfl) ?_
  unfold cuB
  rfl
theorem bo_31 (t : Nat) : cuB (bk_31 t) := by
  unfold bk_31
  repeat refine cuB_if (by unfold cuB; rfl) ?_
  unfold cuB
  rfl
theorem bo_32 (t : Nat) : cuB (bk_32 t) := by
  unfold bk_32
  repeat refine cuB_if (by unfold cuB; rfl) ?_
  unfold cuB
  rfl
theorem bo_33 (t : Nat) : cuB (bk_33 t) := by
  unfold bk_33
  repeat refine cuB_if (by unfold cuB; rfl) ?_
  unfold cuB
  rfl
theorem blk_ok {k : Nat} (h1 : 13 ≤ k) (h2 : k ≤ 33) (t : Nat) : cuB (blk k t) := by
  rcases (show k = 13 ∨ k = 14 ∨ k = 15 ∨ k = 16 ∨ k = 17 ∨ k = 18 ∨ k = 19 ∨ k = 20 ∨ k = 21 ∨ k = 22 ∨ k = 23 ∨ k = 24 ∨ k = 25 ∨ k = 26 ∨ k = 27 ∨ k = 28 ∨ k = 29 ∨ k = 30 ∨ k = 31 ∨ k = 32 ∨ k = 33 by omega) with rfl | rfl | rfl | rfl | rfl | rfl | rfl | rfl | rfl | rfl | rfl | rfl | rfl | rfl | rfl | rfl | rfl | rfl | rfl | rfl | rfl
  · exact bo_13 t
  · exact bo_14 t
  · exact bo_15 t
  · exact bo_16 t
  · exact bo_17 t
  · exact bo_18 t
  · exact bo_19 t
  · exact bo_20 t
  · exact bo_21 t
  · exact bo_22 t
  · exact bo_23 t
  · exact bo_24 t
  · exact bo_25 t
  · exact bo_26 t
  · exact bo_27 t
  · exact bo_28 t
  · exact bo_29 t
  · exact bo_30 t
  · exact bo_31 t
  · exact bo_32 t
  · exact bo_33 t
def GoC (g : MH) (o o' : Ouc) : Prop := match o with
  | none => True
  | some (.inl r) => o' = some (.inl (r.1, cutH r.2)) ∧ r.2 = g ∧ ∀ v, r.1 = some v → cuV v
  | some (.inr (.inl s)) => o' = some (.inr (.inl (s.1, s.2.1, s.2.2.1, cutH s.2.2.2))) ∧ cuS s.2.2.1 ∧ cuL s.2.1 ∧ Cl6 s.2.2.2 ∧ s.2.2.2.1 = g.1 ∧ cuB s.1
  | some (.inr (.inr (k', a, s))) => o' = some (.inr (.inr (k', a, s.1, s.2.1, s.2.2.1, cutH s.2.2.2))) ∧ cuS a ∧ cuS s.2.2.1 ∧ cuL s.2.1 ∧ s.2.2.2 = g ∧ cuB s.1 ∧ 13 ≤ k' ∧ k' ≤ 33
theorem go_nx {cs : List IR} {ls : LV} {st : List Value} {g g' : MH} (hc : cuB cs) (hS : cuS st) (hL : cuL ls) (hG : Cl6 g') (e : g'.1 = g.1) : GoC g (nx cs ls st g') (nx cs ls st (cutH g')) := ⟨rfl, hS, hL, hG, e, hc⟩
theorem go_o1 {f : Int32 → Int32} {cs : List IR} {ls : LV} {st : List Value} {g : MH} (hc : cuB cs) (hS : cuS st) (hL : cuL ls) (hG : Cl6 g) : GoC g (o1 f cs ls st g) (o1 f cs ls st (cutH g)) := by
  unfold o1
  split
  · exact go_nx hc (cuS_m (cuV_i _) (cuS_t hS)) hL hG rfl
  · exact trivial
theorem go_o2 {f : Int32 → Int32 → Int32} {cs : List IR} {ls : LV} {st : List Value} {g : MH} (hc : cuB cs) (hS : cuS st) (hL : cuL ls) (hG : Cl6 g) : GoC g (o2 f cs ls st g) (o2 f cs ls st (cutH g)) := by
  unfold o2
  split
  · exact go_nx hc (cuS_m (cuV_i _) (cuS_t (cuS_t hS))) hL hG rfl
  · exact trivial
theorem go_o2z {f : Int32 → Int32 → Int32} {cs : List IR} {ls : LV} {st : List Value} {g : MH} (hc : cuB cs) (hS : cuS st) (hL : cuL ls) (hG : Cl6 g) : GoC g (o2z f cs ls st g) (o2z f cs ls st (cutH g)) := by
  unfold o2z
  split
  · split
    · exact trivial
    · exact go_nx hc (cuS_m (cuV_i _) (cuS_t (cuS_t hS))) hL hG rfl
  · exact trivial
theorem go_ldi {i : Nat} {cs : List IR} {ls : LV} {st : List Value} {g : MH} (hc : cuB cs) (hS : cuS st) (hL : cuL ls) (hG : Cl6 g) : GoC g (ldi i cs ls st g) (ldi i cs ls st (cutH g)) := by
  unfold ldi
  generalize ls.getD i none = w
  split
  · exact go_nx hc (cuS_m (cuV_i _) hS) hL hG rfl
  · exact trivial
theorem go_lda {i : Nat} {cs : List IR} {ls : LV} {st : List Value} {g : MH} (hc : cuB cs) (hS : cuS st) (hL : cuL ls) (hG : Cl6 g) : GoC g (lda i cs ls st g) (lda i cs ls st (cutH g)) := by
  unfold lda
  generalize e : ls.getD i none = w
  split
  · exact go_nx hc (cuS_m (cuL_get hL e) hS) hL hG rfl
  · exact trivial
theorem go_sti {i : Nat} {cs : List IR} {ls : LV} {st : List Value} {g : MH} (hc : cuB cs) (hS : cuS st) (hL : cuL ls) (hG : Cl6 g) : GoC g (sti i cs ls st g) (sti i cs ls st (cutH g)) := by
  unfold sti
  split
  · split
    · exact go_nx hc (cuS_t hS) (cuL_st1 _ _ hL) hG rfl
    · exact trivial
  · exact trivial
theorem tg_ok {k : Nat} (hk : 13 ≤ k ∧ k ≤ 33) (t : Int) : cuB (tgt k t) := blk_ok hk.1 hk.2 _
theorem go_bf {k : Nat} {c : Jvm.ClassFile.Cond} {t : Int} {cs : List IR} {ls : LV} {st : List Value} {g : MH} (hk : 13 ≤ k ∧ k ≤ 33) (hc : cuB cs) (hS : cuS st) (hL : cuL ls) (hG : Cl6 g) : GoC g (bf k c t cs ls st g) (bf k c t cs ls st (cutH g)) := by
  have ht := tg_ok hk t
  unfold bf
  split
  · have h1 := cuS_t hS
    cases c <;> (try dsimp only) <;> split <;> first | exact go_nx hc h1 hL hG rfl | exact go_nx ht h1 hL hG rfl
  · exact trivial
theorem go_bc {k : Nat} {c : Jvm.ClassFile.Cond} {t : Int} {cs : List IR} {ls : LV} {st : List Value} {g : MH} (hk : 13 ≤ k ∧ k ≤ 33) (hc : cuB cs) (hS : cuS st) (hL : cuL ls) (hG : Cl6 g) : GoC g (bc k c t cs ls st g) (bc k c t cs ls st (cutH g)) := by
  have ht := tg_ok hk t
  unfold bc
  split
  · have h1 := cuS_t (cuS_t hS)
    cases c <;> (try dsimp only) <;> split <;> first | exact go_nx hc h1 hL hG rfl | exact go_nx ht h1 hL hG rfl
  · exact trivial
theorem go_tsw {k : Nat} {d lo hi : Int} {os : Array Int} {ls : LV} {st : List Value} {g : MH} (hk : 13 ≤ k ∧ k ≤ 33) (hS : cuS st) (hL : cuL ls) (hG : Cl6 g) : GoC g (tsw k d lo hi os ls st g) (tsw k d lo hi os ls st (cutH g)) := by
  unfold tsw
  split
  · rename_i x st'
    have h1 := cuS_t hS
    split
    · exact go_nx (tg_ok hk d) h1 hL hG rfl
    · generalize os[(x.toInt - lo).toNat]? = w
      split
      · exact go_nx (tg_ok hk _) h1 hL hG rfl
      · exact trivial
  · exact trivial
theorem go_ali {t : Nat} {cs : List IR} {ls : LV} {st : List Value} {g : MH} (hc : cuB cs) (hS : cuS st) (hL : cuL ls) (hG : Cl6 g) : GoC g (ali t cs ls st g) (ali t cs ls st (cutH g)) := by
  unfold ali
  split
  · rename_i i a st'
    have ha := cuS_h (cuS_t hS) a rfl
    simp only [kd_cut ha, ln_cut ha, gI_cut ha]
    split
    · exact go_nx hc (cuS_m (cuV_i _) (cuS_t (cuS_t hS))) hL hG rfl
    · exact trivial
  · exact trivial
theorem go_aln {cs : List IR} {ls : LV} {st : List Value} {g : MH} (hc : cuB cs) (hS : cuS st) (hL : cuL ls) (hG : Cl6 g) : GoC g (aln cs ls st g) (aln cs ls st (cutH g)) := by
  unfold aln
  split
  · rename_i a st'
    have ha := cuS_h hS a rfl
    simp only [kd_cut ha, ln_cut ha]
    split
    · exact go_nx hc (cuS_m (cuV_i _) (cuS_t hS)) hL hG rfl
    · exact trivial
  · exact trivial
theorem rdF_cut {g : MH} {a f : Nat} (ha : a < 66) : rdF (cutH g) a f = rdF g a f := by
  unfold rdF
  rw [gL_cut ha, gR_cut ha, gI_cut ha]
theorem cuV_rdF {g : MH} {a f : Nat} (ha : a < 66) (hG : Cl6 g) : cuV (rdF g a f) := by
  unfold rdF
  split
  · exact cuV_l _
  · exact hG a _ ha
  · exact cuV_i _
theorem go_gtf {f : Nat} {cs : List IR} {ls : LV} {st : List Value} {g : MH} (hc : cuB cs) (hS : cuS st) (hL : cuL ls) (hG : Cl6 g) : GoC g (gtf f cs ls st g) (gtf f cs ls st (cutH g)) := by
  unfold gtf
  split
  · rename_i a st'
    have ha := cuS_h hS a rfl
    simp only [kd_cut ha, rdF_cut ha]
    split
    · exact go_nx hc (cuS_m (cuV_rdF ha hG) (cuS_t hS)) hL hG rfl
    · exact trivial
  · exact trivial
theorem go_asi {cs : List IR} {ls : LV} {st : List Value} {g : MH} (hc : cuB cs) (hS : cuS st) (hL : cuL ls) (hG : Cl6 g) : GoC g (asi cs ls st g) (asi cs ls st (cutH g)) := by
  unfold asi
  split
  · rename_i x i a st'
    have ha := cuS_h (cuS_t (cuS_t hS)) a rfl
    simp only [kd_cut ha, ln_cut ha, sI_cut ha]
    split
    · exact go_nx hc (cuS_t (cuS_t (cuS_t hS))) hL hG rfl
    · exact trivial
  · exact trivial
theorem go_ass {cs : List IR} {ls : LV} {st : List Value} {g : MH} (hc : cuB cs) (hS : cuS st) (hL : cuL ls) (hG : Cl6 g) : GoC g (ass cs ls st g) (ass cs ls st (cutH g)) := by
  unfold ass
  split
  · rename_i x i a st'
    have ha := cuS_h (cuS_t (cuS_t hS)) a rfl
    simp only [kd_cut ha, ln_cut ha, sI_cut ha]
    split
    · exact go_nx hc (cuS_t (cuS_t (cuS_t hS))) hL hG rfl
    · exact trivial
  · exact trivial
theorem Cl6_sR {g : MH} {a k : Nat} {v : Value} (hG : Cl6 g) (hv : cuV v) : Cl6 (sR g a k v) := fun x y hx => by
  rw [gR_sR]
  split
  · exact hv
  · exact hG x y hx
theorem go_ptf {f : Nat} {cs : List IR} {ls : LV} {st : List Value} {g : MH} (hc : cuB cs) (hS : cuS st) (hL : cuL ls) (hG : Cl6 g) : GoC g (ptf f cs ls st g) (ptf f cs ls st (cutH g)) := by
  unfold ptf
  split
  · rename_i v a st'
    have ha := cuS_h (cuS_t hS) a rfl
    have h3 := cuS_t (cuS_t hS)
    have hv := cuS_h hS
    clear hS
    simp only [kd_cut ha, sI_cut ha, sL_cut ha, sR_cut ha]
    split
    · generalize fty f = n
      split
      · exact go_nx hc h3 hL hG rfl
      · exact go_nx hc h3 hL hG rfl
      · exact go_nx hc h3 hL (Cl6_sR hG hv) rfl
      · split
        · exact go_nx hc h3 hL hG rfl
        · exact trivial
      · exact trivial
    · exact trivial
  · exact trivial
theorem go_rti {k : Nat} {st : List Value} {g : MH} : GoC g (rti k st g) (rti k st (cutH g)) := by
  unfold rti
  split
  · split
    · split
      · exact ⟨rfl, rfl, fun v e => by cases e; exact cuV_i _⟩
      · exact trivial
    · split
      · exact ⟨rfl, rfl, fun v e => by cases e; exact cuV_i _⟩
      · exact trivial
  · exact trivial
theorem go_stp {k : Nat} {i : IR} {cs : List IR} {ls : LV} {st : List Value} {g : MH} (hk : 13 ≤ k ∧ k ≤ 33) (hi : cuI i = true) (hc : cuB cs) (hS : cuS st) (hL : cuL ls) (hG : Cl6 g) : GoC g (stp k i cs ls st g) (stp k i cs ls st (cutH g)) := by
  match i, hi with
  | .aload_n n, _ => exact go_lda hc hS hL hG
  | .arraylength, _ => exact go_aln hc hS hL hG
  | .bipush n, _ => exact go_nx hc (cuS_m (cuV_i _) hS) hL hG rfl
  | .getfield n, _ => exact go_gtf hc hS hL hG
  | .goto t, _ => exact go_nx (tg_ok hk t) hS hL hG rfl
  | .goto_w t, _ => exact go_nx (tg_ok hk t) hS hL hG rfl
  | .i2s, _ => exact go_o1 hc hS hL hG
  | .iaload, _ => exact go_ali hc hS hL hG
  | .saload, _ => exact go_ali hc hS hL hG
  | .iastore, _ => exact go_asi hc hS hL hG
  | .sastore, _ => exact go_ass hc hS hL hG
  | .iconst n, _ => exact go_nx hc (cuS_m (cuV_i _) hS) hL hG rfl
  | .sipush n, _ => exact go_nx hc (cuS_m (cuV_i _) hS) hL hG rfl
  | .idiv, _ => exact go_o2z hc hS hL hG
  | .irem, _ => exact go_o2z hc hS hL hG
  | .ifCond c t, _ => exact go_bf hk hc hS hL hG
  | .if_icmp c t, _ => exact go_bc hk hc hS hL hG
  | .iload n, _ => exact go_ldi hc hS hL hG
  | .iload_n n, _ => exact go_ldi hc hS hL hG
  | .istore n, _ => exact go_sti hc hS hL hG
  | .istore_n n, _ => exact go_sti hc hS hL hG
  | .putfield n, _ => exact go_ptf hc hS hL hG
  | .ireturn, _ => exact go_rti
  | .tableswitch d lo hi os, _ => exact go_tsw hk hS hL hG
  | .iadd, _ => exact go_o2 hc hS hL hG
  | .isub, _ => exact go_o2 hc hS hL hG
  | .imul, _ => exact go_o2 hc hS hL hG
  | .iand, _ => exact go_o2 hc hS hL hG
  | .ior, _ => exact go_o2 hc hS hL hG
  | .ishl, _ => exact go_o2 hc hS hL hG
  | .ishr, _ => exact go_o2 hc hS hL hG
  | .iinc i n, _ =>
    simp only [stp]
    generalize ls.getD i none = w
    split
    · exact go_nx hc hS (cuL_st1 _ _ hL) hG rfl
    · exact trivial
  | .dup, _ =>
    simp only [stp]
    split
    · exact go_nx hc (cuS_m (cuS_h hS) hS) hL hG rfl
    · exact go_nx hc (cuS_m (cuS_h hS) hS) hL hG rfl
    · exact trivial
  | .return_, _ =>
    simp only [stp]
    split
    · split
      · exact ⟨rfl, rfl, fun v e => by cases e⟩
      · exact trivial
    · exact trivial
  | .invokeinterface k' n, hi =>
    have hk' : 13 ≤ k' ∧ k' ≤ 33 := of_decide_eq_true hi
    simp only [stp]
    split
    · exact ⟨rfl, fun v hv => hS v (List.mem_of_mem_take (List.mem_reverse.mp hv)), fun v hv => hS v (List.mem_of_mem_drop hv), hL, rfl, hc, hk'⟩
    · exact trivial
theorem rcv_cut {k : Nat} {a : List Value} {g : MH} (h : cuS a) : rcv k a (cutH g) = rcv k a g := by
  unfold rcv
  generalize mrc k = w
  cases w with
  | none => rfl
  | some c =>
    cases a with
    | nil => rfl
    | cons v t =>
      cases v <;> first
        | rfl
        | (rename_i x
           have hx := cuS_h h x rfl
           show decide (kd (cutH g) x = c ∧ 2 ≤ x ∧ c < 13) = decide (kd g x = c ∧ 2 ≤ x ∧ c < 13)
           rw [kd_cut hx])
theorem go_xec (n : Nat) : ∀ (k μ : Nat) (cs : List IR) (ls : LV) (st : List Value) (g : MH) (r : Rz), 13 ≤ k ∧ k ≤ 33 → cuB cs → cuS st → cuL ls → Cl6 g → xec n k μ cs ls st g = some r → xec n k μ cs ls st (cutH g) = some (r.1, cutH r.2) ∧ Cl6 r.2 ∧ r.2.1 = g.1 ∧ ∀ v, r.1 = some v → cuV v := by
  induction n with
  | zero => intro k μ cs ls st g r _ _ _ _ _ e; cases e
  | succ n ih =>
    intro k μ cs ls st g r hk hc hS hL hG e
    match cs, hc, e with
    | i :: cs, hc, e =>
      have hc' : (cuI i && cs.all cuI) = true := hc
      rw [Bool.and_eq_true] at hc'
      have e : KK (xec n) k μ (stp k i cs ls st g) = some r := e
      have hg := go_stp (cs := cs) (ls := ls) (st := st) (g := g) hk hc'.1 hc'.2 hS hL hG
      show KK (xec n) k μ (stp k i cs ls st (cutH g)) = some (r.1, cutH r.2) ∧ _
      generalize stp k i cs ls st (cutH g) = o' at hg ⊢
      generalize stp k i cs ls st g = o at e hg
      match o, e, hg with
      | some (.inl q), e, hg =>
        obtain ⟨z1, z2, z3⟩ := hg
        have e : some q = some r := e
        cases e
        rw [z1, z2]
        exact ⟨rfl, hG, rfl, z3⟩
      | some (.inr (.inl s)), e, hg =>
        obtain ⟨z1, z2, z3, z4, z5, z6⟩ := hg
        have y := ih k μ s.1 s.2.1 s.2.2.1 s.2.2.2 r hk z6 z2 z3 z4 e
        rw [z1]
        exact ⟨y.1, y.2.1, y.2.2.1.trans z5, y.2.2.2⟩
      | some (.inr (.inr (k', a, s))), e, hg =>
        obtain ⟨z1, z2, z3, z4, z5, z6, z7⟩ := hg
        rw [z1]
        simp only [KK] at e ⊢
        rw [z5] at e ⊢
        have oc : okC k' a μ (cutH g) = okC k' a μ g := by
          unfold okC
          rw [rcv_cut z2]
        split at e
        · rename_i hq
          have hq' : okC k' a μ (cutH g) := by rw [oc]; exact hq
          rw [if_pos hq']
          obtain ⟨q, h1, h2⟩ := Option.bind_eq_some_iff.mp e
          have y := ih k' (mu k' a) (blk k' 0) (ent k' a) [] g q z7 (blk_ok z7.1 z7.2 0) cuS_n (cuL_ent z2) hG h1
          have hp : cuS (psh q.1 s.2.2.1) := by
            cases c : q.1 with
            | none => exact z3
            | some v => exact cuS_m (y.2.2.2 v c) z3
          have y2 := ih k μ s.1 s.2.1 (psh q.1 s.2.2.1) q.2 r hk z6 hp z4 y.2.1 h2
          rw [y.1]
          exact ⟨y2.1, y2.2.1, y2.2.2.1.trans y.2.2.1, y2.2.2.2⟩
        · cases e
theorem go_cal {k μ : Nat} {a : List Value} {g g' : MH} {v : Option Value} (hk : 13 ≤ k ∧ k ≤ 33) (ha : cuS a) (hG : Cl6 g) (e : cal k a μ g = some (v, g')) : cal k a μ (cutH g) = some (v, cutH g') ∧ g'.1 = g.1 := by
  have oc : okC k a μ (cutH g) = okC k a μ g := by
    unfold okC
    rw [rcv_cut ha]
  unfold cal at e ⊢
  split at e
  · rename_i hq
    have hq' : okC k a μ (cutH g) := by rw [oc]; exact hq
    rw [if_pos hq']
    obtain ⟨n, e⟩ := rn_to e
    have y := go_xec n k (mu k a) (blk k 0) (ent k a) [] g (v, g') hk (blk_ok hk.1 hk.2 0) cuS_n (cuL_ent ha) hG e
    exact ⟨rn_of y.1, y.2.2.1⟩
  · cases e
