def R_law : String := "GraftedLawsLaw"
def lw_P (b : Addr) (xs : List Int32) (args : Array Value) (s : State) : Prop := args = #[.ref b] ∧ s.IntsAt b xs ∧ xs.length ≤ 3072 ∧ (Jvm.Cond.and given_1 narrow_1).before args s = true
def lw_Q (_ : Array Value) (s : State) (o : Outcome) (t : State) : Prop := o = .returned (some (.int 1)) ∧ Framed s o t [] 600000 7302250
def lw_Z (below : List Frame) (a : Array Value) (s : State) : State → Prop := fun t => ∃ o, t.status = .running ∧ Ended t below o ∧ lw_Q a s o t
/-- the law's own end, with 1 on the stack, nothing written that was there before, its room as the claim has it -/
theorem lw_ret {p : Program} {l : Launch} {e : Env} {s : State} {m : MethodId} {below : List Frame} {meth : Method} {c : Code} {b : Nat} (hx : p.tables.exec = Jvm.exec) (hb : c.code = code) (hr : meth.sig.returnType = ret) (hlocks : meth.locks = false) {pc : Nat} {H : Heap} {ls : Array Slot} (hdg : decode code pc = .ok (.ireturn, 1)) : W p l e room_1 s m #[Value.ref b] below meth c H [] 600000 7302250 (lw_Z below #[Value.ref b] s) (F0 m pc ls [.int 1]) := by
  intro T hT X
  obtain ⟨fs, hret, hrun, hended, hW, hframe⟩ := X.leave (v := some (.int 1)) (hlocks := hlocks) (fun h => by rw [hr] at h; cases h)
  have hmeth' : T.vm.method? m = some meth := X.method'
  refine ⟨T.setFrames fs, ?_, .returned (some (.int 1)), hrun, hended, rfl, ⟨_, rfl⟩, hW, hframe⟩
  jvm_step X.here [X.here.top, hx, hb, hdg, hmeth', hr, ret, narrow_b1]
  (try refine ⟨rfl, ?_⟩); (try refine ⟨rfl, ?_⟩)
  first | (intro acts; rw [hret _ acts rfl rfl rfl]) | rw [hret _ _ rfl rfl rfl]
  exact Steps.refl _
/-- what holds at the law's entry: the machine, the code, the tables' words (any of lw_tbl by 'hts w (by decide +kernel)'), the script of L ints xs at the cell b, what the Statement gives of the start (any of its parts by flat_of_before) -/
def lw_At (p : Program) (s : State) (m : MethodId) (meth : Method) (c : Code) (b L : Nat) (xs : Nat → Int32) : Prop :=
  p.tables.exec = Jvm.exec ∧ c.code = code ∧ meth.sig.returnType = ret ∧ c.maxLocals = 4 ∧ s.vm.findClass R_law = some m.cls ∧ (∀ w ∈ lw_tbl, w.before #[Value.ref b] s = true) ∧ va_X b L xs s s.heap ∧ b < s.heap.size ∧ meth.locks = false ∧ (Jvm.Cond.and given_1 narrow_1).before #[Value.ref b] s = true
/-! the start of the small machine -/
def rsv : List Int64 := [500135192948, 1953654117, 465491486066, 121364810985335, 109317142704997, 28526, 1935767923, 7562612, 28832984692515955, 1870030194, 474147546227, 1650553459, 26982, 6383981, 422607680115, 32498692185748083, 1936024932, 28530, 6385252, 7237492]
def hp0 (L : Nat) (xs : Nat → Int32) : MH := ([(20, L), (21, 20)], fun a k => if a = 0 then xs k else 0, fun a k => if a = 1 then rsv.getD k 0 else 0, fun _ _ => .null)
def tmR : Term := .static "GraftedLaws$Reader" "RESERVED" "[J"
theorem rsv_T {s : State} {b : Nat} (hgv : (Jvm.Cond.and given_1 narrow_1).before #[Value.ref b] s = true) {A : Nat → Prop} (hA : ∀ a : Nat, a < s.heap.size → ¬ A a) : ∃ t : Nat, tmR.eval #[Value.ref b] s none [] s = some (.ref t) ∧ va_T .long t 20 (fun j => .long (rsv.getD j 0)) A s s.heap := by
  have hs := flat_of_before _ hgv
  refine va_Tof (by decide) (hs (Cond.arrayOf tmR .long) (by decide +kernel)) (va_eqt (hs (Cond.eq (.length tmR) (.int 20)) (by decide +kernel))) (fun j hj => ?_) hA
  match j, hj with
  | 0, _ => exact va_eqtl (z := 500135192948) (hs (Cond.eq (.elem tmR (.int 0)) (.long 500135192948)) (by decide +kernel))
  | 1, _ => exact va_eqtl (z := 1953654117) (hs (Cond.eq (.elem tmR (.int 1)) (.long 1953654117)) (by decide +kernel))
  | 2, _ => exact va_eqtl (z := 465491486066) (hs (Cond.eq (.elem tmR (.int 2)) (.long 465491486066)) (by decide +kernel))
  | 3, _ => exact va_eqtl (z := 121364810985335) (hs (Cond.eq (.elem tmR (.int 3)) (.long 121364810985335)) (by decide +kernel))
  | 4, _ => exact va_eqtl (z := 109317142704997) (hs (Cond.eq (.elem tmR (.int 4)) (.long 109317142704997)) (by decide +kernel))
  | 5, _ => exact va_eqtl (z := 28526) (hs (Cond.eq (.elem tmR (.int 5)) (.long 28526)) (by decide +kernel))
  | 6, _ => exact va_eqtl (z := 1935767923) (hs (Cond.eq (.elem tmR (.int 6)) (.long 1935767923)) (by decide +kernel))
  | 7, _ => exact va_eqtl (z := 7562612) (hs (Cond.eq (.elem tmR (.int 7)) (.long 7562612)) (by decide +kernel))
  | 8, _ => exact va_eqtl (z := 28832984692515955) (hs (Cond.eq (.elem tmR (.int 8)) (.long 28832984692515955)) (by decide +kernel))
  | 9, _ => exact va_eqtl (z := 1870030194) (hs (Cond.eq (.elem tmR (.int 9)) (.long 1870030194)) (by decide +kernel))
  | 10, _ => exact va_eqtl (z := 474147546227) (hs (Cond.eq (.elem tmR (.int 10)) (.long 474147546227)) (by decide +kernel))
  | 11, _ => exact va_eqtl (z := 1650553459) (hs (Cond.eq (.elem tmR (.int 11)) (.long 1650553459)) (by decide +kernel))
  | 12, _ => exact va_eqtl (z := 26982) (hs (Cond.eq (.elem tmR (.int 12)) (.long 26982)) (by decide +kernel))
  | 13, _ => exact va_eqtl (z := 6383981) (hs (Cond.eq (.elem tmR (.int 13)) (.long 6383981)) (by decide +kernel))
  | 14, _ => exact va_eqtl (z := 422607680115) (hs (Cond.eq (.elem tmR (.int 14)) (.long 422607680115)) (by decide +kernel))
  | 15, _ => exact va_eqtl (z := 32498692185748083) (hs (Cond.eq (.elem tmR (.int 15)) (.long 32498692185748083)) (by decide +kernel))
  | 16, _ => exact va_eqtl (z := 1936024932) (hs (Cond.eq (.elem tmR (.int 16)) (.long 1936024932)) (by decide +kernel))
  | 17, _ => exact va_eqtl (z := 28530) (hs (Cond.eq (.elem tmR (.int 17)) (.long 28530)) (by decide +kernel))
  | 18, _ => exact va_eqtl (z := 6385252) (hs (Cond.eq (.elem tmR (.int 18)) (.long 6385252)) (by decide +kernel))
  | 19, _ => exact va_eqtl (z := 7237492) (hs (Cond.eq (.elem tmR (.int 19)) (.long 7237492)) (by decide +kernel))
  | j + 20, hj => exact absurd hj (by omega)
theorem arr_k {s : State} {args : Array Value} {ty : FieldType} (h : (Cond.arrayClass ty).before args s = true) (hp : va_RA s = fun c t => va_RA s c t) : ∃ c : ClassId, ArrOfT s c ty ∧ s.vm.findClass ("[" ++ ty.toString) = some c := by
  obtain ⟨cA, kA, comp, h1, h2, h3⟩ := Cond.arrayClass_spec h
  exact ⟨cA, fun n z => ⟨fun k h => (by cases h), kA, h2, comp, h3⟩, h1⟩
set_option maxRecDepth 20000 in
theorem whole_open (hrun : ∀ (L : Nat) (xs : Nat → Int32), L ≤ 3072 → ∃ h', rn 0 90 (blk 0 0) (ent 0 [.ref 0]) [] (hp0 L xs) = some (some (.int 1), h') ∧ h'.1.length ≤ 500 ∧ szH h' ≤ 200000)
    {p : Program} {e : Env} {s : State} {m : MethodId} {below : List Frame} {meth : Method} {c : Code} (l : Launch) {b L : Nat} {xs : Nat → Int32} (hL : L ≤ 3072) (C0 : lw_At p s m meth c b L xs) : W p l e room_1 s m #[Value.ref b] below meth c s.heap [] 0 0 (lw_Z below #[Value.ref b] s) (entryFrame m ([Value.ref b] : List Value).toArray 4) := by
  obtain ⟨hx, hb, hr, hml, hown, hts, hX, hbl, hlocks, hgv⟩ := id C0
  obtain ⟨h', hrn, hc1, hc2⟩ := hrun L xs hL
  obtain ⟨n, hn⟩ := rn_to hrn
  have hA : ∀ a : Nat, a < s.heap.size → ¬ Aq s.heap.size a := fun a h1 h2 => absurd (show s.heap.size ≤ a from h2) (by omega)
  obtain ⟨t, ht1, ht2⟩ := rsv_T hgv hA
  have hZ : va_Z "GraftedLaws$Reader" "RESERVED" "[J" (.ref t) (Aq s.heap.size) s s.heap := va_Zref (hts _ sw_l.1) (hts _ sw_l.2) ht1 hA
  obtain ⟨c0, iS0, hKn0⟩ := u_known (C := RX0) (T := TX0) (N := (vT 0).2.2) hts uw_0 (hts _ in_0)
  obtain ⟨c1, iS1, hKn1⟩ := u_known (C := RX1) (T := TX1) (N := (vT 1).2.2) hts uw_1 (hts _ in_1)
  obtain ⟨c2, iS2, hKn2⟩ := u_known (C := RX2) (T := TX2) (N := (vT 2).2.2) hts uw_2 (hts _ in_2)
  obtain ⟨c3, iS3, hKn3⟩ := u_known (C := RX3) (T := TX3) (N := (vT 3).2.2) hts uw_3 (hts _ in_3)
  obtain ⟨c4, iS4, hKn4⟩ := u_known (C := RX4) (T := TX4) (N := (vT 4).2.2) hts uw_4 (hts _ in_4)
  obtain ⟨c5, iS5, hKn5⟩ := u_known (C := RX5) (T := TX5) (N := (vT 5).2.2) hts uw_5 (hts _ in_5)
  obtain ⟨c6, iS6, hKn6⟩ := u_known (C := RX6) (T := TX6) (N := (vT 6).2.2) hts uw_6 (hts _ in_6)
  obtain ⟨c7, iS7, hKn7⟩ := u_known (C := RX7) (T := TX7) (N := (vT 7).2.2) hts uw_7 (hts _ in_7)
  obtain ⟨c8, iS8, hKn8⟩ := u_known (C := RX8) (T := TX8) (N := (vT 8).2.2) hts uw_8 (hts _ in_8)
  obtain ⟨c9, iS9, hKn9⟩ := u_known (C := RX9) (T := TX9) (N := (vT 9).2.2) hts uw_9 (hts _ in_9)
  obtain ⟨c10, iS10, hKn10⟩ := u_known (C := RX10) (T := TX10) (N := (vT 10).2.2) hts uw_10 (hts _ in_10)
  obtain ⟨c11, iS11, hKn11⟩ := u_known (C := RX11) (T := TX11) (N := (vT 11).2.2) hts uw_11 (hts _ in_11)
  obtain ⟨c12, iS12, hKn12⟩ := u_known (C := RX12) (T := TX12) (N := (vT 12).2.2) hts uw_12 (hts _ in_12)
  obtain ⟨dC, dI, hKc⟩ : ∃ (dC : Nat → ClassId) (dI : Nat → Nat → Nat), ∀ (k : Nat) (q : vw_C), vwCl[k]? = some q → u_Kn s q.1 q.2.1 q.2.2 (dC k) (dI k) := by
    refine ⟨fun k => if k = 0 then c0 else if k = 1 then c1 else if k = 2 then c2 else if k = 3 then c3 else if k = 4 then c4 else if k = 5 then c5 else if k = 6 then c6 else if k = 7 then c7 else if k = 8 then c8 else if k = 9 then c9 else if k = 10 then c10 else if k = 11 then c11 else c12, fun k => if k = 0 then iS0 else if k = 1 then iS1 else if k = 2 then iS2 else if k = 3 then iS3 else if k = 4 then iS4 else if k = 5 then iS5 else if k = 6 then iS6 else if k = 7 then iS7 else if k = 8 then iS8 else if k = 9 then iS9 else if k = 10 then iS10 else if k = 11 then iS11 else iS12, ?_⟩
    intro k q hq
    match k, hq with
    | 0, hq => cases hq; exact hKn0
    | 1, hq => cases hq; exact hKn1
    | 2, hq => cases hq; exact hKn2
    | 3, hq => cases hq; exact hKn3
    | 4, hq => cases hq; exact hKn4
    | 5, hq => cases hq; exact hKn5
    | 6, hq => cases hq; exact hKn6
    | 7, hq => cases hq; exact hKn7
    | 8, hq => cases hq; exact hKn8
    | 9, hq => cases hq; exact hKn9
    | 10, hq => cases hq; exact hKn10
    | 11, hq => cases hq; exact hKn11
    | 12, hq => cases hq; exact hKn12
    | k + 13, hq => simp [vwCl] at hq
  obtain ⟨a_int, k_int, f_int⟩ := arr_k (hts _ ar_int) rfl
  obtain ⟨a_long, k_long, f_long⟩ := arr_k (hts _ ar_long) rfl
  obtain ⟨a_short, k_short, f_short⟩ := arr_k (hts _ ar_short) rfl
  obtain ⟨a_byte, k_byte, f_byte⟩ := arr_k (hts _ ar_byte) rfl
  obtain ⟨a_boolean, k_boolean, f_boolean⟩ := arr_k (hts _ ar_boolean) rfl
  have hK : va_K (dC, dI) vwCl (tysL (fun t => if t = 20 then a_int else if t = 21 then a_long else if t = 22 then a_short else if t = 23 then a_byte else a_boolean)) s := by
    refine ⟨hKc, fun k q hq => ?_⟩
    match k, hq with
    | 0, hq => cases hq; exact ⟨k_int, f_int⟩
    | 1, hq => cases hq; exact ⟨k_long, f_long⟩
    | 2, hq => cases hq; exact ⟨k_short, f_short⟩
    | 3, hq => cases hq; exact ⟨k_byte, f_byte⟩
    | 4, hq => cases hq; exact ⟨k_boolean, f_boolean⟩
    | k + 5, hq => simp [tysL] at hq
  have hW : Wd (dC, dI) (fun t => if t = 20 then a_int else if t = 21 then a_long else if t = 22 then a_short else if t = 23 then a_byte else a_boolean) s.heap.size b t (hp0 L xs) s s.heap :=
    ⟨hK, ⟨Nat.le_refl 2, rfl, fun i hi => absurd (show i + 2 < 2 from hi) (by omega)⟩, ⟨rfl, rfl, hbl, hX, hZ, ht2⟩, fun r hr => va_Nw.of rfl (hts _ (cM_w r hr))⟩
  have hl := lv_entry ([.ref b]) (n := 4) (Nat.le_of_ble_eq_true rfl)
  rw [lg_entry_eq]
  generalize (lg_sl ([.ref b]) ++ List.replicate (4 - (lg_sl ([.ref b])).length) Slot.unset).toArray = ls at hl ⊢
  have hLR : LR s.heap.size b t 0 (ent 0 [.ref 0]) ls := ent_LR (a := [.ref 0]) (show 1 ≤ 4 by omega) hl
  have h2 : (hp0 L xs).1.length = 2 := rfl
  refine sg_all (n := n) 0 90 (blk 0 0) (ent 0 [.ref 0]) [] (hp0 L xs) _ h' hn 0 (okAll 0 0 (by decide +kernel)) p e room_1 s m _ below meth c s.heap [] 0 0 _ ls ⟨hx, hb, hml, hown, fun q => absurd q (by decide +kernel), fun w hw => hts w (List.mem_filter.mp hw).1⟩ hW va_S.rf hLR ⟨by omega, Nat.le_of_ble_eq_true rfl, Nat.le_of_ble_eq_true rfl⟩ ⟨by show 0 + _ ≤ 600000; omega, by show 0 + _ ≤ 7302250; omega⟩ ?_
  intro H' locs' pc' lsR' st' hR hW' hS'
  refine va_forget (fun q hq => hS'.2.2 q hq) ?_
  refine W.widen (k := 600000) (n := 7302250) (by omega) (by omega) ?_
  rcases hR with ⟨x, ty, hd, rfl, he, -, -⟩ | ⟨x, -, -, he, -⟩ | ⟨x, -, -, he, -⟩ | ⟨-, -, he, -⟩
  · cases he
    exact lw_ret hx hb hr hlocks hd
  · cases he
  · cases he
  · cases he
