theorem syU_3 {x : Txt} {N : List Int64} {pre : List (Int32 × Int32)} {w f : Nat} (hx : TxB x) (hU5 : SyU x N pre w f 5) (hU3 : SyU x N pre w f 3) : SyU x N pre w (f + 1) 3 := by
  intro d q pend c g S0 h l3 hd hc hq hms hI hl hS0 hv hn hM
  rw [rd_3 hq]
  have hmsv : ms 3 q = 16 * (1602 - qi q) + 5 := rfl
  have hS4 : hdl 4 S0 := hS0
  have hkl : S0.length ≤ 6 * d + 2 := hl
  by_cases c1 : isN (tks x (qi q)) = true
  · rw [if_pos c1]
    have n1 := isN_k c1
    have hlt := tks_lt hx (show ¬ tkK (tks x (qi q)) = 0 by omega)
    obtain ⟨u1, u2⟩ := un_not hM hv (by omega) c1 (hdl_mn hS4) hd
    by_cases c2 : 6 < d
    · rw [if_pos c2]
      obtain ⟨h1, k1, B1, F1⟩ := u2 c2
      refine ⟨fun z => absurd z (bad_nz (by decide) q), fun _ => ⟨h1, ?_, B1, F1⟩⟩
      rw [UF_of k1]
      exact KF_bad B1
    · rw [if_neg c2]
      obtain ⟨h1, k1, M1, F1⟩ := u1 (by omega)
      have hI' : PI x N pre (pend + 1) (c + 1) g (stq q) := by
        obtain ⟨p1, p2, ⟨p6, p7⟩, p8⟩ := hI
        have n3 := tks_not hx n1.1 n1.2
        have n4 := p7 n1.1
        refine ⟨p1, p2, ⟨?_, fun z => ?_⟩, ?_⟩
        · show 4 * (nNt pre + nNt (qs q) + (pend + 1)) ≤ tkS (tks x (qi q + 1)) + 1; omega
        · have := n3.2 z
          show 4 * (nNt pre + nNt (qs q) + (pend + 1)) ≤ tkS (tks x (qi q + 1)); omega
        · show nNt (qs q) + (pend + 1) ≤ 7 * qo q + (c + 1); omega
      have hmv : ms 3 (stq q) = 16 * (1602 - (qi q + 1)) + 5 := rfl
      have G1 := hU3 (d + 1) (stq q) (pend + 1) (c + 1) g (21 :: S0) h1 l3 (by omega) (by omega) hq (by omega) hI' (by rw [List.length_cons]; show S0.length + 1 ≤ 6 * (d + 1) + 2; omega) (Or.inr ⟨Or.inl rfl, by decide⟩) (fun a ha => by
        rcases List.mem_cons.mp ha with z | z
        · exact Or.inr (by rw [z]; exact Or.inl rfl)
        · exact hv a z) (fun z => by omega) M1
      have e1 : UF w l3 h = UF w l3 h1 := by unfold UF; rw [k1]
      rw [e1]
      generalize rd x N f 3 (d + 1) (stq q) = r at G1 ⊢
      by_cases z : qf r = 0
      · obtain ⟨h2, R', E', l3', a1, a2, a3, a4, a5, a6⟩ := G1.1 z
        refine ⟨fun _ => ⟨h2, R' ++ [21], E', l3', a1, ?_, fun a ha => ?_, ?_, ?_, F1.trans a6⟩, fun y => absurd z (by rw [emt_f] at y; exact y)⟩
        · rw [List.map_append, ← List.append_assoc, a2, List.map_cons, List.map_nil, emt_0 z]; rfl
        · rcases List.mem_append.mp ha with y | y
          · exact a3 a y
          · rw [List.mem_singleton.mp y]; exact ⟨Or.inl rfl, by decide⟩
        · rw [emt_i]; exact a4.app _
        · rw [n21_app, show n21 [21] = 1 from rfl, List.append_assoc, List.singleton_append, emt_0 z, show d + (n21 R' + 1) = d + 1 + n21 R' by omega]
          exact a5
      · refine ⟨fun y => absurd y (by rw [emt_f]; exact z), fun _ => ?_⟩
        rw [emt_f, emt_i]
        obtain ⟨h2, a1, a2, a3⟩ := G1.2 z
        exact ⟨h2, a1, a2, F1.trans a3⟩
  · rw [if_neg c1]
    have hmv : ms 5 q = 16 * (1602 - qi q) + 4 := rfl
    have G1 := hU5 d q pend c g S0 h l3 hd hc hq (by omega) hI (by show S0.length ≤ 6 * d + 3; omega) (hdl_mono (by decide) hS4) hv (fun _ z => absurd z c1) hM
    have hPI := PI_rd (N := N) (pre := pre) hx f 5 d q pend c g (by unfold Lv; omega) hq hd hc (by intro z; omega) hI
    rw [if_neg (show ¬ 10 ≤ 5 by decide)] at hPI
    have hmn := rd_mono (x := x) (N := N) f 5 d q
    generalize rd x N f 5 d q = r at G1 hPI hmn ⊢
    unfold rdr
    by_cases z : qf r = 0
    · obtain ⟨h2, R', E', l3', a1, a2, a3, a4, a5, a6⟩ := G1.1 z
      rw [a1]
      by_cases c2 : tg (tks x (qi r)) = 4
      · rw [if_pos ⟨z, c2⟩]
        have hk := tg_k (t := tks x (qi r)) (by omega)
        have hlt := tks_lt hx hk.1
        have hmv2 : ms 5 (stq r) = 16 * (1602 - (qi r + 1)) + 4 := rfl
        obtain ⟨h3, k3, G3⟩ := sy_op (m := 4) l3' hx hU5 hd z (by omega) (hPI z) (by show S0.length + 1 ≤ 6 * d + 3; omega) hS4 hv a2 (fun a ha => ⟨(a3 a ha).1, by have := (a3 a ha).2; omega⟩) c2 (by decide) (fun _ => by
          rw [hr_skip R' (fun a ha => ⟨(a3 a ha).1, by have := (a3 a ha).2; omega⟩)]
          exact hdl_hr hS4) (by decide) (fun _ => by decide) (by decide) a5
        rw [k3]
        obtain ⟨tg1, op1⟩ := tgh_sg (t := tks x (qi r)) (by omega)
        obtain ⟨so1, so2⟩ := sto_op hk.2.2
        generalize rd x N f 5 d (stq r) = r2 at G3 ⊢
        by_cases y : qf r2 = 0
        · obtain ⟨h4, R2, E2, l4, b1, b2, b3, b4, b5, b6⟩ := G3.1 y
          refine ⟨fun _ => ⟨h4, R2 ++ [sg (tks x (qi r))], E2, l4, b1, ?_, fun a ha => ?_, ?_, ?_, a6.trans b6⟩, fun v => absurd y (by rw [emt_f] at v; exact v)⟩
          · rw [List.map_append, ← List.append_assoc, b2, List.map_cons, List.map_nil, so1, emt_0 y]
          · rcases List.mem_append.mp ha with v | v
            · exact ⟨(b3 a v).1, by have := (b3 a v).2; omega⟩
            · rw [List.mem_singleton.mp v]; exact ⟨op1, by omega⟩
          · rw [emt_i]
            have t3 := tg_ne3 (tks x (qi r2))
            have h4' : hr (R2 ++ [sg (tks x (qi r))]) = true := by
              rw [hr_skip R2 (fun a ha => ⟨(b3 a ha).1, by have := (b3 a ha).2; omega⟩)]
              rw [show hr [sg (tks x (qi r))] = if sg (tks x (qi r)) = 20 then false else if 4 < tgh (sg (tks x (qi r))) then hr [] else tgh (sg (tks x (qi r))) == 4 from rfl, if_neg (opc_20 op1), if_neg (by omega), tg1, c2]
              rfl
            rcases b4 with v | v
            · by_cases u : tg (tks x (qi r2)) = 4
              · exact Or.inr ⟨u, h4'⟩
              · left; omega
            · exact Or.inr ⟨v.1, h4'⟩
          · rw [n21_app, so2, Nat.add_zero, List.append_assoc, List.singleton_append, emt_0 y]
            exact b5
        · refine ⟨fun v => absurd v (by rw [emt_f]; exact y), fun _ => ?_⟩
          rw [emt_f, emt_i]
          obtain ⟨h4, b1, b2, b3⟩ := G3.2 y
          exact ⟨h4, b1, b2, a6.trans b3⟩
      · rw [if_neg (fun v => c2 v.2)]
        refine ⟨fun _ => ⟨h2, R', E', l3', rfl, a2, fun a ha => ⟨(a3 a ha).1, by have := (a3 a ha).2; omega⟩, ?_, a5, a6⟩, fun v => absurd z v⟩
        have t3 := tg_ne3 (tks x (qi r))
        rcases a4 with v | v
        · left; omega
        · exact absurd v.1 c2
    · rw [if_neg (fun v => z v.1)]
      exact ⟨fun v => absurd v z, fun _ => G1.2 z⟩
theorem syU_7 {x : Txt} {N : List Int64} {pre : List (Int32 × Int32)} {w f : Nat} (hx : TxB x) (hU1 : SyU x N pre w f 1) : SyU x N pre w (f + 1) 7 := by
  intro d q pend c g S0 h l3 hd hc hq hms hI hl hS0 hv hn hM
  rw [rd_7 hq]
  have hmsv : ms 7 q = 16 * (1602 - qi q) + 0 := rfl
  have hkl : S0.length ≤ 6 * d + 5 := hl
  have hlen := hI.len (by omega)
  obtain ⟨p1, ⟨p2, p3, p4, p5⟩, ⟨p6, p7⟩, p8⟩ := hI
  have start := un_nn hM hv (hn (by decide))
  unfold rdu
  by_cases c3 : isS (tks x (qi q)) 40 = true
  · obtain ⟨u1, u2⟩ := un_par hM (by omega) c3 p3 p4 hd
    have hk := isS_k.mp c3
    by_cases c1 : 30 ≤ qo q ∨ 120 ≤ qu q
    · rw [if_pos c1]
      obtain ⟨h1, k1, B1, F1⟩ := u2 (Or.inl c1)
      refine ⟨fun z => absurd z (bad_nz (by decide) q), fun _ => ⟨h1, ?_, B1, F1⟩⟩
      rw [UF_of (start.trans k1)]
      exact KF_bad B1
    · rw [if_neg c1, if_neg (by omega), if_pos c3]
      by_cases c4 : 6 < d
      · rw [if_pos c4]
        obtain ⟨h1, k1, B1, F1⟩ := u2 (Or.inr c4)
        refine ⟨fun z => absurd z (bad_nz (by decide) q), fun _ => ⟨h1, ?_, B1, F1⟩⟩
        rw [UF_of (start.trans k1)]
        exact KF_bad B1
      · rw [if_neg c4]
        obtain ⟨h1, k1, M1, F1⟩ := u1 ⟨c1, by omega⟩
        have hlt := tks_lt hx (show ¬ tkK (tks x (qi q)) = 0 by omega)
        have kk := (tks_k hx (qi q) (by omega)).2.1
        have kk2 := tks_S hx (qi q)
        have hP' : PI x N pre pend 0 g (qi q + 1, 0, qu q + 1, qo q + 1, qs q) := by
          refine ⟨p1, ⟨?_, ?_, ?_, ?_⟩, ⟨?_, fun _ => ?_⟩, ?_⟩
          · show nLf pre + nLf (qs q) ≤ qu q + 1; omega
          · show qu q + 1 ≤ 120; omega
          · show qo q + 1 ≤ 30; omega
          · show nLf (qs q) ≤ qo q + 1; omega
          · show 4 * (nNt pre + nNt (qs q) + pend) ≤ tkS (tks x (qi q + 1)) + 1; omega
          · show 4 * (nNt pre + nNt (qs q) + pend) ≤ tkS (tks x (qi q + 1)); omega
          · show nNt (qs q) + pend ≤ 7 * (qo q + 1) + 0; omega
        have hmv : ms 1 (qi q + 1, 0, qu q + 1, qo q + 1, qs q) = 16 * (1602 - (qi q + 1)) + 9 := rfl
        have G1 := hU1 (d + 1) (qi q + 1, 0, qu q + 1, qo q + 1, qs q) pend 0 g (20 :: S0) h1 l3 (by omega) (by omega) rfl (by omega) hP' (by rw [List.length_cons]; show S0.length + 1 ≤ 6 * (d + 1) + 0; omega) (Or.inl rfl) (fun a ha => by
          rcases List.mem_cons.mp ha with z | z
          · exact Or.inl z
          · exact hv a z) (fun z => by omega) M1
        have hPI := PI_rd (N := N) (pre := pre) hx f 1 (d + 1) (qi q + 1, 0, qu q + 1, qo q + 1, qs q) pend 0 g (Or.inl rfl) rfl (by omega) (by omega) (by intro z; omega) hP'
        have e1 : UF w l3 h = UF w l3 h1 := by unfold UF; rw [start, k1]
        rw [e1]
        generalize rd x N f 1 (d + 1) (qi q + 1, 0, qu q + 1, qo q + 1, qs q) = r at G1 hPI ⊢
        by_cases z : qf r = 0
        · rw [if_neg (fun y => y z)]
          obtain ⟨h2, R', E', l3', a1, a2, a3, a4, a5, a6⟩ := G1.1 z
          rw [a1]
          have hl2 := (hPI z).len (by omega)
          have hEl : E'.length + R'.length = (qs r).length := by rw [← a2, List.length_append, List.length_map]
          by_cases c6 : isS (tks x (qi r)) 41 = true
          · rw [if_pos c6]
            obtain ⟨h3, k3, M3, F3⟩ := kf_par (d := d) l3' a5 c6 (fun a ha => (a3 a ha).1) (by omega)
            rw [a2] at M3
            rw [k3]
            have ht6 : tg (tks x (qi (stq r))) ≤ 6 := by
              unfold tg
              repeat' split
              all_goals omega
            exact ⟨fun _ => ⟨h3, [], qs r, some (.int 0), rfl, by rw [List.map_nil, List.append_nil]; rfl, fun a ha => (by cases ha), Or.inl (by omega), M3, (F1.trans a6).trans F3⟩, fun y => absurd z y⟩
          · rw [if_neg c6]
            have t0 : tg (tks x (qi r)) = 0 ∨ (tg (tks x (qi r)) = 4 ∧ hr (R' ++ 20 :: S0) = true) := by
              rcases a4 with y | y
              · left; omega
              · exact Or.inr ⟨y.1, hr_app R' y.2⟩
            obtain ⟨h3, k3, B3, F3⟩ := kf_endB l3' a5 (fun a ha => by
              rcases List.mem_append.mp ha with y | y
              · exact Or.inr (a3 a y).1
              · rcases List.mem_cons.mp y with v | v
                · exact Or.inl v
                · exact hv a v) t0 c6 (by rw [hb_app, show hb (20 :: S0) = true from by unfold hb; rw [List.any_cons]; rfl, Bool.or_true])
            exact ⟨fun y => absurd y (bad_nz (by decide) r), fun _ => ⟨h3, k3, B3, (F1.trans a6).trans F3⟩⟩
        · rw [if_pos z]
          obtain ⟨h2, a1, a2, a3⟩ := G1.2 z
          exact ⟨fun y => absurd y z, fun _ => ⟨h2, a1, a2, F1.trans a3⟩⟩
  · obtain ⟨u1, u2, u3, u4⟩ := un_leaf hM c3 p3 p4 hlen
    have ht6 : ∀ i, tg (tks x i) < 7 := fun i => by
      unfold tg
      repeat' split
      all_goals omega
    by_cases c1 : 30 ≤ qo q ∨ 120 ≤ qu q
    · rw [if_pos c1]
      obtain ⟨h1, k1, B1, F1⟩ := u3 (Or.inl c1)
      refine ⟨fun z => absurd z (bad_nz (by decide) q), fun _ => ⟨h1, ?_, B1, F1⟩⟩
      rw [UF_of (start.trans k1)]
      exact KF_bad B1
    · rw [if_neg c1]
      by_cases c2 : tkK (tks x (qi q)) = 3
      · rw [if_pos c2]
        obtain ⟨h1, k1, M1, F1⟩ := u1 c1 c2
        exact ⟨fun _ => ⟨h1, [], _, l3, UF_of (start.trans k1), by rw [List.map_nil, List.append_nil], fun a ha => (by cases ha), Or.inl (ht6 _), M1, F1⟩, fun y => absurd rfl y⟩
      · rw [if_neg c2, if_neg c3]
        by_cases c4 : nam (tks x (qi q)) = false
        · rw [if_pos c4]
          obtain ⟨h1, k1, B1, F1⟩ := u3 (Or.inr ⟨c2, c4⟩)
          refine ⟨fun z => absurd z (bad_nz (by decide) q), fun _ => ⟨h1, ?_, B1, F1⟩⟩
          rw [UF_of (start.trans k1)]
          exact KF_bad B1
        · rw [if_neg c4]
          have c4' : nam (tks x (qi q)) = true := by simpa using c4
          by_cases c5 : fnd N (tkW (tks x (qi q))) < N.length
          · rw [if_pos c5]
            obtain ⟨h1, k1, M1, F1⟩ := u2 c1 c4' c5
            exact ⟨fun _ => ⟨h1, [], _, l3, UF_of (start.trans k1), by rw [List.map_nil, List.append_nil], fun a ha => (by cases ha), Or.inl (ht6 _), M1, F1⟩, fun y => absurd rfl y⟩
          · rw [if_neg c5]
            obtain ⟨h1, k1, B1, F1⟩ := u4 c1 c4' c5
            refine ⟨fun z => absurd z (bad_nz (by decide) q), fun _ => ⟨h1, ?_, B1, F1⟩⟩
            rw [UF_of (start.trans k1)]
            exact KF_bad B1
theorem sy_all {x : Txt} {N : List Int64} {pre : List (Int32 × Int32)} {w : Nat} (hx : TxB x) : ∀ f, (SyU x N pre w f 7 ∧ SyU x N pre w f 6 ∧ SyU x N pre w f 5 ∧ SyU x N pre w f 3 ∧ SyU x N pre w f 2 ∧ SyU x N pre w f 1) ∧ (SyF x N pre w f 6 ∧ SyF x N pre w f 5 ∧ SyF x N pre w f 2 ∧ SyF x N pre w f 1) := by
  intro f
  induction f with
  | zero =>
    refine ⟨⟨?_, ?_, ?_, ?_, ?_, ?_⟩, ?_, ?_, ?_, ?_⟩
    all_goals first
      | (intro d q pend c g S0 h l3 _ _ _ hm; omega)
      | (intro d q pend g S0 R E h l3 _ _ hm; omega)
  | succ f ih =>
    obtain ⟨⟨u7, u6, u5, u3, u2, u1⟩, f6, f5, f2, f1⟩ := ih
    have l1 : Lb 1 := Or.inl rfl
    have l2 : Lb 2 := Or.inr (Or.inl rfl)
    have l5 : Lb 5 := Or.inr (Or.inr (Or.inl rfl))
    have l6 : Lb 6 := Or.inr (Or.inr (Or.inr rfl))
    exact ⟨⟨syU_7 hx u1, syU_lv hx l6 u7 f6, syU_lv hx l5 u6 f5, syU_3 hx u5 u3, syU_lv hx l2 u3 f2, syU_lv hx l1 u2 f1⟩, syF_s hx l6 u7 f6, syF_s hx l5 u6 f5, syF_s hx l2 u3 f2, syF_s hx l1 u2 f1⟩
