/-! both read a formula alike -/
def kap (l : Nat) : Nat := if l = 1 then 0 else if l = 2 then 1 else if l = 3 then 2 else if l = 5 then 3 else if l = 6 then 4 else 5
def cxb (l : Nat) : Nat := if l = 3 then 4 else l
def Nxt (l t : Nat) (R : List Int32) : Prop := t < l ∨ (t = 4 ∧ hr R = true)
def GF (x : Txt) (N : List Int64) (w l d : Nat) (S0 : List Int32) (r : Qs) (h0 : MH) (K : Option (Option Value × MH)) : Prop :=
  (qf r = 0 → ∃ h' R E l3', K = KF w l3' [] h' ∧ E ++ R.map sto = qs r ∧ (∀ a ∈ R, opc a ∧ l ≤ tgh a) ∧ Nxt l (tg (tks x (qi r))) R ∧ MF x N w (qi r) (qu r) (qo r) (d + n21 R) (R ++ S0) E h' ∧ FM w h0 h') ∧
  (¬ qf r = 0 → ∃ h', K = some (none, h') ∧ BM (qf r) (tkS (tks x (qi r))) h' ∧ FM w h0 h')
theorem GF.pre {x : Txt} {N : List Int64} {w l d : Nat} {S0 : List Int32} {r : Qs} {h0 h1 : MH} {K K' : Option (Option Value × MH)} (g : GF x N w l d S0 r h1 K') (e : K = K') (f : FM w h0 h1) : GF x N w l d S0 r h0 K := by
  subst e
  refine ⟨fun z => ?_, fun z => ?_⟩
  · obtain ⟨h', R, E, l3', a1, a2, a3, a4, a5, a6⟩ := g.1 z
    exact ⟨h', R, E, l3', a1, a2, a3, a4, a5, f.trans a6⟩
  · obtain ⟨h', a1, a2, a3⟩ := g.2 z
    exact ⟨h', a1, a2, f.trans a3⟩
def SyU (x : Txt) (N : List Int64) (pre : List (Int32 × Int32)) (w f l : Nat) : Prop := ∀ (d : Nat) (q : Qs) (pend c g : Nat) (S0 : List Int32) (h : MH) (l3 : Option Value), d ≤ 7 → c ≤ d → qf q = 0 → ms l q < f → PI x N pre pend c g q → S0.length ≤ 6 * d + kap l → hdl (cxb l) S0 → (∀ a ∈ S0, a = 20 ∨ opc a) → (5 ≤ l → isN (tks x (qi q)) = true → mn S0 = false) → MF x N w (qi q) (qu q) (qo q) d S0 (qs q) h → GF x N w l d S0 (rd x N f l d q) h (UF w l3 h)
def SyF (x : Txt) (N : List Int64) (pre : List (Int32 × Int32)) (w f m : Nat) : Prop := ∀ (d : Nat) (q : Qs) (pend g : Nat) (S0 R : List Int32) (E : List (Int32 × Int32)) (h : MH) (l3 : Option Value), d ≤ 7 → qf q = 0 → ms (m + 10) q < f → PI x N pre pend 0 (g + 1) q → S0.length ≤ 6 * d + kap m → hdl m S0 → (∀ a ∈ S0, a = 20 ∨ opc a) → E ++ R.map sto = qs q → (∀ a ∈ R, opc a ∧ m ≤ tgh a) → Nxt (nxl m) (tg (tks x (qi q))) R → MF x N w (qi q) (qu q) (qo q) (d + n21 R) (R ++ S0) E h → GF x N w m d S0 (rd x N f (m + 10) d q) h (KF w l3 [] h)
theorem PI.len {x : Txt} {N : List Int64} {pre : List (Int32 × Int32)} {pend c g : Nat} {q : Qs} (h : PI x N pre pend c g q) (hc : c ≤ 7) : (qs q).length < 320 := by
  obtain ⟨p1, ⟨p2, p3, p4, p5⟩, ⟨p6, p7⟩, p8⟩ := h
  obtain ⟨c1, c2⟩ := Wh_cnt _ _ _ p1
  omega
theorem hdl_mono {m m' : Nat} (hm : m ≤ m') {S : List Int32} (h : hdl m S) : hdl m' S := by
  cases S with
  | nil => trivial
  | cons a S => exact h.imp id (fun z => ⟨z.1, by omega⟩)
theorem hdl_mn {S : List Int32} (h : hdl 4 S) : mn S = true := by
  cases S with
  | nil => rfl
  | cons a S =>
    rw [show mn (a :: S) = (a == 20 || decide (tgh a < 4)) from rfl]
    rcases h with z | z
    · rw [show (a == 20) = true by simpa using z, Bool.true_or]
    · rw [decide_eq_true z.2, Bool.or_true]
theorem hdl_hr {S : List Int32} (h : hdl 4 S) : hr S = false := by
  cases S with
  | nil => rfl
  | cons a S =>
    rw [show hr (a :: S) = if a = 20 then false else if 4 < tgh a then hr S else tgh a == 4 from rfl]
    rcases h with z | z
    · rw [if_pos z]
    · rw [if_neg (opc_20 z.1), if_neg (by omega)]
      have := z.2
      simpa using (show ¬ tgh a = 4 by omega)
theorem hr_skip {S : List Int32} : ∀ R : List Int32, (∀ a ∈ R, opc a ∧ 4 < tgh a) → hr (R ++ S) = hr S
  | [], _ => rfl
  | a :: R, h => by
    have z := h a (List.mem_cons_self ..)
    rw [List.cons_append, show hr (a :: (R ++ S)) = if a = 20 then false else if 4 < tgh a then hr (R ++ S) else tgh a == 4 from rfl, if_neg (opc_20 z.1), if_pos z.2]
    exact hr_skip R (fun b hb => h b (List.mem_cons_of_mem _ hb))
theorem hr_app {S : List Int32} : ∀ R : List Int32, hr R = true → hr (R ++ S) = true
  | [], h => by cases h
  | a :: R, h => by
    rw [show hr (a :: R) = if a = 20 then false else if 4 < tgh a then hr R else tgh a == 4 from rfl] at h
    rw [List.cons_append, show hr (a :: (R ++ S)) = if a = 20 then false else if 4 < tgh a then hr (R ++ S) else tgh a == 4 from rfl]
    by_cases c : a = 20
    · rw [if_pos c] at h; cases h
    · rw [if_neg c] at h ⊢
      by_cases d : 4 < tgh a
      · rw [if_pos d] at h ⊢
        exact hr_app R h
      · rw [if_neg d] at h ⊢
        exact h
theorem Nxt.app {l t : Nat} {R : List Int32} (S : List Int32) (h : Nxt l t R) : Nxt l t (R ++ S) := h.imp id (fun z => ⟨z.1, hr_app R z.2⟩)
theorem n21_app (R S : List Int32) : n21 (R ++ S) = n21 R + n21 S := List.countP_append ..
theorem sto_op {a : Int32} (h : sgn a) : sto a = (3, a) ∧ n21 [a] = 0 := by
  have : ¬ a = 21 := by
    unfold sgn at h
    rcases h with rfl | rfl | rfl | rfl | rfl | rfl | rfl | rfl | rfl | rfl <;> decide
  refine ⟨by unfold sto; rw [if_neg this], ?_⟩
  rw [n21_c, if_neg this]
  rfl
theorem tg_ne3 (t : Tk) : ¬ tg t = 3 := by
  unfold tg
  repeat' split
  all_goals omega
/-- an operator behind what is read, and the next level -/
theorem sy_op {x : Txt} {N : List Int64} {pre : List (Int32 × Int32)} {w f m l' d pend g : Nat} {q : Qs} {S0 R : List Int32} {E : List (Int32 × Int32)} {h : MH} (l3 : Option Value) (hx : TxB x) (hU : SyU x N pre w f l') (hd : d ≤ 7) (hq : qf q = 0) (hm : ms l' (stq q) < f) (hI : PI x N pre pend 0 (g + 1) q) (hl : S0.length + 1 ≤ 6 * d + kap l') (hS0 : hdl m S0) (hv : ∀ a ∈ S0, a = 20 ∨ opc a) (hE : E ++ R.map sto = qs q) (hR : ∀ a ∈ R, opc a ∧ m ≤ tgh a) (ht : tg (tks x (qi q)) = m) (hm0 : 0 < m) (h4 : m = 4 → hr (R ++ S0) = false) (hc : m < cxb l') (h5 : 5 ≤ l' → 4 ≤ m) (hkl : kap l' ≤ 5) (hM : MF x N w (qi q) (qu q) (qo q) (d + n21 R) (R ++ S0) E h) : ∃ h1, KF w l3 [] h = UF w (some (.int (sg (tks x (qi q))))) h1 ∧ GF x N w l' d (sg (tks x (qi q)) :: S0) (rd x N f l' d (stq q)) h (UF w (some (.int (sg (tks x (qi q))))) h1) := by
  have hlen := hI.len (by omega)
  have hEl : E.length + R.length = (qs q).length := by rw [← hE, List.length_append, List.length_map]
  obtain ⟨h1, k1, M1, F1⟩ := kf_op (d := d) l3 hM (by omega) (fun z => h4 (by omega)) (fun a ha => by
    rcases List.mem_append.mp ha with z | z
    · exact Or.inr (hR a z).1
    · exact hv a z) (fun a ha => by rw [ht]; exact hR a ha) (by rw [ht]; exact hS0) (by omega) (by omega)
  rw [hE] at M1
  obtain ⟨tg1, op1⟩ := tgh_sg (t := tks x (qi q)) (by omega)
  have hk := tg_k (t := tks x (qi q)) (by omega)
  refine ⟨h1, k1, (hU d (stq q) pend 0 (g + 1) (sg (tks x (qi q)) :: S0) h1 _ hd (by omega) hq hm (hI.stq hx hk.1) (by rw [List.length_cons]; exact hl) (Or.inr ⟨op1, by omega⟩) (fun a ha => ?_) (fun z _ => ?_) M1).pre rfl F1⟩
  · rcases List.mem_cons.mp ha with z | z
    · exact Or.inr (by rw [z]; exact op1)
    · exact hv a z
  · rw [show mn (sg (tks x (qi q)) :: S0) = (sg (tks x (qi q)) == 20 || decide (tgh (sg (tks x (qi q))) < 4)) from rfl]
    have := h5 z
    rw [show (sg (tks x (qi q)) == 20) = false by simpa using opc_20 op1, decide_eq_false (by omega)]
    rfl
def Lb (m : Nat) : Prop := m = 1 ∨ m = 2 ∨ m = 5 ∨ m = 6
theorem syF_s {x : Txt} {N : List Int64} {pre : List (Int32 × Int32)} {w f m : Nat} (hx : TxB x) (hm : Lb m) (hU : SyU x N pre w f (nxl m)) (hF : SyF x N pre w f m) : SyF x N pre w (f + 1) m := by
  intro d q pend g S0 R E h l3 hd hq hms hI hl hS0 hv hE hR hN hM
  rw [rd_lp hq (by omega)]
  have hr1 : rnk (m + 10) < 16 ∧ rnk (nxl m) < 16 ∧ 0 < rnk (m + 10) := by
    rcases hm with rfl | rfl | rfl | rfl <;> decide
  have hmsv : ms (m + 10) q = 16 * (1602 - qi q) + rnk (m + 10) := rfl
  by_cases c : tg (tks x (qi q)) + 10 = m + 10
  · rw [if_pos c, show nxl (m + 10 - 10) = nxl m from rfl]
    have ht : tg (tks x (qi q)) = m := by omega
    have hk := tg_k (t := tks x (qi q)) (by rcases hm with rfl | rfl | rfl | rfl <;> omega)
    have hlt := tks_lt hx hk.1
    have hmv : ms (nxl m) (stq q) = 16 * (1602 - (qi q + 1)) + rnk (nxl m) := rfl
    obtain ⟨h1, k1, G1⟩ := sy_op (m := m) l3 hx hU hd hq (by omega) hI (by rcases hm with rfl | rfl | rfl | rfl <;> (unfold kap at hl ⊢; simp [nxl] at hl ⊢; omega)) hS0 hv hE hR ht (by rcases hm with rfl | rfl | rfl | rfl <;> omega) (by rcases hm with rfl | rfl | rfl | rfl <;> (intro z; omega)) (by rcases hm with rfl | rfl | rfl | rfl <;> decide) (by rcases hm with rfl | rfl | rfl | rfl <;> (unfold nxl; simp)) (by rcases hm with rfl | rfl | rfl | rfl <;> decide) hM
    rw [k1]
    have hPI := PI_rd (N := N) (pre := pre) hx f (nxl m) d (stq q) pend 0 (g + 1) (by rcases hm with rfl | rfl | rfl | rfl <;> (unfold Lv nxl; decide)) hq hd (by omega) (by rcases hm with rfl | rfl | rfl | rfl <;> (unfold nxl; simp)) (hI.stq hx hk.1)
    rw [if_neg (by rcases hm with rfl | rfl | rfl | rfl <;> decide)] at hPI
    have hmn := rd_mono (x := x) (N := N) f (nxl m) d (stq q)
    have hmn : qi q + 1 ≤ qi (rd x N f (nxl m) d (stq q)) := hmn
    generalize rd x N f (nxl m) d (stq q) = r at G1 hPI hmn ⊢
    obtain ⟨f', rfl⟩ : ∃ f', f = f' + 1 := ⟨f - 1, by omega⟩
    by_cases z : qf r = 0
    · obtain ⟨h2, R', E', l3', a1, a2, a3, a4, a5, a6⟩ := G1.1 z
      rw [a1]
      obtain ⟨tg1, op1⟩ := tgh_sg (t := tks x (qi q)) (by rcases hm with rfl | rfl | rfl | rfl <;> omega)
      obtain ⟨so1, so2⟩ := sto_op hk.2.2
      have hnm : m ≤ nxl m := by rcases hm with rfl | rfl | rfl | rfl <;> decide
      have hG := hF d (emt (3, sg (tks x (qi q))) r) pend g S0 (R' ++ [sg (tks x (qi q))]) E' h2 l3' hd (by rw [emt_f]; exact z) (by
        have : ms (m + 10) (emt (3, sg (tks x (qi q))) r) = 16 * (1602 - qi (emt (3, sg (tks x (qi q))) r)) + rnk (m + 10) := rfl
        rw [emt_i] at this
        omega) ((hPI z).bin hk.2.2 z) hl hS0 hv (by
        rw [List.map_append, ← List.append_assoc, a2, List.map_cons, List.map_nil, so1, emt_0 z]) (fun a ha => by
        rcases List.mem_append.mp ha with y | y
        · exact ⟨(a3 a y).1, Nat.le_trans hnm (a3 a y).2⟩
        · rw [List.mem_singleton.mp y]; exact ⟨op1, by omega⟩) (by rw [emt_i]; exact a4.app _) (by
        rw [n21_app, so2, Nat.add_zero, List.append_assoc, List.singleton_append, emt_0 z]
        exact a5)
      exact hG.pre rfl a6
    · rw [rd_stop (by rw [emt_f]; exact z)]
      refine ⟨fun y => absurd y (by rw [emt_f]; exact z), fun _ => ?_⟩
      rw [emt_f, emt_i]
      exact G1.2 z
  · rw [if_neg c]
    refine ⟨fun _ => ⟨h, R, E, l3, rfl, hE, hR, ?_, hM, FM.rf w h⟩, fun z => absurd hq z⟩
    rcases hN with z | z
    · left
      rcases hm with rfl | rfl | rfl | rfl <;> (unfold nxl at z; simp at z; have := tg_ne3 (tks x (qi q)); omega)
    · exact Or.inr z
theorem syU_lv {x : Txt} {N : List Int64} {pre : List (Int32 × Int32)} {w f m : Nat} (hx : TxB x) (hm : Lb m) (hU : SyU x N pre w f (nxl m)) (hF : SyF x N pre w f m) : SyU x N pre w (f + 1) m := by
  intro d q pend c g S0 h l3 hd hc hq hms hI hl hS0 hv hn hM
  rw [rd_lv hq (by rcases hm with rfl | rfl | rfl | rfl <;> decide) (by rcases hm with rfl | rfl | rfl | rfl <;> decide) (by rcases hm with rfl | rfl | rfl | rfl <;> decide)]
  have hr1 : rnk (nxl m) < rnk m ∧ rnk (m + 10) < rnk m := by
    rcases hm with rfl | rfl | rfl | rfl <;> decide
  have hmsv : ms m q = 16 * (1602 - qi q) + rnk m := rfl
  have hmv : ms (nxl m) q = 16 * (1602 - qi q) + rnk (nxl m) := rfl
  have hcx : cxb m = m ∧ m ≤ cxb (nxl m) ∧ kap m ≤ kap (nxl m) ∧ (5 ≤ nxl m → 5 ≤ m) ∧ m ≤ nxl m := by
    rcases hm with rfl | rfl | rfl | rfl <;> decide
  have G1 := hU d q pend c g S0 h l3 hd hc hq (by omega) hI (by omega) (hdl_mono hcx.2.1 (by rw [hcx.1] at hS0; exact hS0)) hv (fun z => hn (hcx.2.2.2.1 z)) hM
  have hPI := PI_rd (N := N) (pre := pre) hx f (nxl m) d q pend c g (by rcases hm with rfl | rfl | rfl | rfl <;> (unfold Lv nxl; decide)) hq hd hc (by rcases hm with rfl | rfl | rfl | rfl <;> (unfold nxl; simp)) hI
  rw [if_neg (by rcases hm with rfl | rfl | rfl | rfl <;> decide)] at hPI
  have hmn := rd_mono (x := x) (N := N) f (nxl m) d q
  generalize rd x N f (nxl m) d q = r at G1 hPI hmn ⊢
  obtain ⟨f', rfl⟩ : ∃ f', f = f' + 1 := ⟨f - 1, by omega⟩
  by_cases z : qf r = 0
  · obtain ⟨h2, R', E', l3', a1, a2, a3, a4, a5, a6⟩ := G1.1 z
    rw [a1]
    exact (hF d r pend g S0 R' E' h2 l3' hd z (by
      have : ms (m + 10) r = 16 * (1602 - qi r) + rnk (m + 10) := rfl
      omega) (hPI z) hl (by rw [hcx.1] at hS0; exact hS0) hv a2 (fun a ha => ⟨(a3 a ha).1, Nat.le_trans hcx.2.2.2.2 (a3 a ha).2⟩) a4 a5).pre rfl a6
  · rw [rd_stop z]
    exact ⟨fun y => absurd y z, fun _ => G1.2 z⟩
