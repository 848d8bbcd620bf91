/-! a law out of what was told: what it is made of decides what applies and what is over what -/
theorem strd_c {L L' : LD} (hT : dT L = dT L') (hs : ∀ t, dSize L t = dSize L' t) : ∀ n t, strd L t n = strd L' t n
  | 0, _ => rfl
  | n + 1, t => by
    unfold strd
    rw [hT, hs (t + 1), strd_c hT hs n (t + 1)]
theorem dNs_c {L L' : LD} (hT : dT L = dT L') (hs : ∀ t, dSize L t = dSize L' t) : dNs L = dNs L' := by
  unfold dNs
  rw [hT, hs 0, strd_c hT hs]
theorem tvl_c {L L' : LD} (hT : dT L = dT L') (hs : ∀ t, dSize L t = dSize L' t) (k : Nat) : tvl L k = tvl L' k := by
  funext x
  unfold tvl val
  rw [hs, strd_c hT hs]
theorem apv_c {L L' : LD} (hT : dT L = dT L') (hs : ∀ t, dSize L t = dSize L' t) (Fs : Nat → List (Int32 × Int32)) (k : Nat) : ∀ n, apv L Fs k n = apv L' Fs k n
  | 0 => rfl
  | n + 1 => by
    unfold apv fv
    rw [tvl_c hT hs, apv_c hT hs Fs k n]
theorem amv_c {L L' : LD} (hT : dT L = dT L') (hs : ∀ t, dSize L t = dSize L' t) (FA : List (Int32 × Int32)) (am : Bool) (k : Nat) : amv L FA am k = amv L' FA am k := by
  unfold amv fv
  rw [tvl_c hT hs]
theorem nar_c {L L' : LD} (hN : dN L = dN L') (hA : ∀ k, dApp L k = dApp L' k) (c d : Nat) : nar L c d = nar L' c d := by
  unfold nar
  simp only [hN, hA]
theorem ovr_c {L L' : LD} (hN : dN L = dN L') (hA : ∀ k, dApp L k = dApp L' k) (hH : ∀ c, dHome L c = dHome L' c) (hw : ∀ t, dHow L t = dHow L' t) (ht : ∀ c, dTold L c = dTold L' c) (c d : Nat) : ovr L c d = ovr L' c d := by
  unfold ovr
  simp only [hH, hw, ht, nar_c hN hA]
theorem ovn_c {L L' : LD} {d : Nat} (h : ∀ c, ovr L c d = ovr L' c d) : ∀ n, ovn L d n = ovn L' d n
  | 0 => rfl
  | n + 1 => by
    unfold ovn
    rw [h n, ovn_c h n]
theorem ovn_n (L : LD) (d : Nat) : ∀ c, c ≤ 12 → ∃ n, n < 2 ^ c ∧ ovn L d c = nI n
  | 0, _ => ⟨0, by decide, rfl⟩
  | c + 1, h => by
    obtain ⟨n, h1, h2⟩ := ovn_n L d c (by omega)
    have h3 : 2 ^ c < 2 ^ (c + 1) := Nat.pow_lt_pow_right (by omega) (by omega)
    unfold ovn
    by_cases q : ovr L c d = true
    · rw [if_pos q, h2]
      exact or_1 (by omega) (by omega) (by omega)
    · rw [if_neg q]; exact ⟨n, by omega, h2⟩
theorem ovn_t (L : LD) (d : Nat) : ∀ n, n ≤ 12 → ∀ i, i < 32 → tbt (ovn L d n) i = (decide (i < n) && ovr L i d) := by
  intro n
  induction n with
  | zero => intro _ i _; unfold ovn; rw [tbt_0, decide_eq_false (by omega), Bool.false_and]
  | succ n ih =>
    intro hn i hi
    have := ih (by omega) i hi
    unfold ovn
    by_cases q : ovr L n d = true
    · rw [if_pos q, tbt_or, this, tbt_one (by omega) hi]
      by_cases z : i = n
      · rw [z, decide_eq_true (show n < n + 1 by omega), q, decide_eq_true rfl]; simp
      · rw [decide_eq_false z, Bool.or_false]
        congr 1
        exact decide_eq_decide.mpr (by omega)
    · rw [if_neg q, this]
      by_cases z : i = n
      · rw [z, decide_eq_false (show ¬ n < n by omega), Bool.false_and]
        cases y : ovr L n d with
        | true => exact absurd y q
        | false => rw [Bool.and_false]
      · congr 1
        exact decide_eq_decide.mpr (by omega)
theorem dNs_b {L : LD} (hB : SzB L) : 1 ≤ dNs L ∧ dNs L ≤ 256 := by
  have h4 := hB.1
  unfold dNs
  by_cases c : 0 < dT L
  · rw [if_pos c, strd_st 3 0 (by omega)]
    have b := strd_le hB 3 0
    have p := strd_pos hB 3 0
    have s := hB.2 0 c
    exact ⟨Nat.mul_pos (by omega) p, Nat.le_trans (Nat.mul_le_mul s.2 b) (by decide)⟩
  · rw [if_neg c]
    omega
def lwA0 (nT nR nC : Nat) (home size : Nat → Nat) : Nat → Nat := fun i => if i = 0 then nT else if i = 1 then nR else if i = 2 then nC else if i < 30 then home (i - 10) else size (i - 30)
def lwA (nT nR nC : Nat) (home size : Nat → Nat) : Nat → Nat := fun i => if i = 3 then dNs (lwA0 nT nR nC home size, fun _ _ => 0) else lwA0 nT nR nC home size i
def lwB1 (A : Nat → Nat) (D : Nat → Nat → Int32) (Fs : Nat → List (Int32 × Int32)) (FA : List (Int32 × Int32)) (am : Bool) : Nat → Nat → Int32 := fun i j => if i = 5 then apv (A, D) Fs j (A 2) else if i = 7 then amv (A, D) FA am j else D i j
def lwB (A : Nat → Nat) (D : Nat → Nat → Int32) (Fs : Nat → List (Int32 × Int32)) (FA : List (Int32 × Int32)) (am : Bool) : Nat → Nat → Int32 := fun i j => if i = 6 then ovn (A, lwB1 A D Fs FA am) j (A 2) else lwB1 A D Fs FA am i j
theorem law_of (nT nR nC : Nat) (home size : Nat → Nat) (D : Nat → Nat → Int32) (Fs : Nat → List (Int32 × Int32)) (FA : List (Int32 × Int32)) (am : Bool) : ∃ L : LD, (dT L = nT ∧ dR L = nR ∧ dC L = nC ∧ dN L = dNs L) ∧ (∀ c, c < 20 → dHome L c = home c) ∧ (∀ t, dSize L t = size t) ∧ (∀ i j, ¬ i = 5 → ¬ i = 6 → ¬ i = 7 → L.2 i j = D i j) ∧ (∀ k, dApp L k = apv L Fs k (dC L)) ∧ (∀ c, dAbv L c = ovn L c (dC L)) ∧ ∀ k, dAim L k = amv L FA am k := by
  have hs : ∀ t, lwA nT nR nC home size (30 + t) = lwA0 nT nR nC home size (30 + t) := fun t => if_neg (by omega)
  refine ⟨(lwA nT nR nC home size, lwB (lwA nT nR nC home size) D Fs FA am), ⟨rfl, rfl, rfl, ?_⟩, fun c hc => ?_, fun t => ?_, fun i j h5 h6 h7 => ?_, fun k => ?_, fun c => ?_, fun k => ?_⟩
  · show lwA nT nR nC home size 3 = _
    have e : lwA nT nR nC home size 3 = dNs (lwA0 nT nR nC home size, fun _ _ => 0) := if_pos rfl
    rw [e]
    exact dNs_c rfl (fun t => (hs t).symm)
  · show lwA nT nR nC home size (10 + c) = _
    unfold lwA lwA0
    rw [if_neg (by omega), if_neg (by omega), if_neg (by omega), if_neg (by omega), if_pos (by omega), show 10 + c - 10 = c by omega]
  · show lwA nT nR nC home size (30 + t) = _
    unfold lwA lwA0
    rw [if_neg (by omega), if_neg (by omega), if_neg (by omega), if_neg (by omega), if_neg (by omega), show 30 + t - 30 = t by omega]
  · show lwB (lwA nT nR nC home size) D Fs FA am i j = _
    unfold lwB lwB1
    rw [if_neg h6, if_neg h5, if_neg h7]
  · show lwB (lwA nT nR nC home size) D Fs FA am 5 k = _
    have e : lwB (lwA nT nR nC home size) D Fs FA am 5 k = apv (lwA nT nR nC home size, D) Fs k (lwA nT nR nC home size 2) := rfl
    rw [e]
    exact apv_c (L := (lwA nT nR nC home size, D)) (L' := (lwA nT nR nC home size, lwB (lwA nT nR nC home size) D Fs FA am)) rfl (fun t => rfl) Fs k _
  · show lwB (lwA nT nR nC home size) D Fs FA am 6 c = _
    have e : lwB (lwA nT nR nC home size) D Fs FA am 6 c = ovn (lwA nT nR nC home size, lwB1 (lwA nT nR nC home size) D Fs FA am) c (lwA nT nR nC home size 2) := rfl
    rw [e]
    exact ovn_c (L := (lwA nT nR nC home size, lwB1 (lwA nT nR nC home size) D Fs FA am)) (L' := (lwA nT nR nC home size, lwB (lwA nT nR nC home size) D Fs FA am)) (fun y => ovr_c rfl (fun k => rfl) (fun z => rfl) (fun t => rfl) (fun z => rfl) y c) _
  · show lwB (lwA nT nR nC home size) D Fs FA am 7 k = _
    have e : lwB (lwA nT nR nC home size) D Fs FA am 7 k = amv (lwA nT nR nC home size, D) FA am k := rfl
    rw [e]
    exact amv_c (L := (lwA nT nR nC home size, D)) (L' := (lwA nT nR nC home size, lwB (lwA nT nR nC home size) D Fs FA am)) rfl (fun t => rfl) FA am k
/-! the law that was read -/
def LwO (o : Nat) (L : LD) (st sd : Nat) (h : MH) : Prop := (gI h (o + 1) 1 = nI (dT L) ∧ gI h (o + 4) 1 = nI (dR L) ∧ gI h (o + 8) 1 = nI (dC L)) ∧ (∀ t, t < dT L → gI h (o + 3) t = nI (dSize L t)) ∧ (∀ t, t < 3 → gI h (o + 7) t = dMem L t) ∧ (∀ c, c < dC L → gI h (o + 10) c = nI (dHome L c) ∧ gI h (o + 11) c = dSay L c ∧ gI h (o + 13) c = dNeed L c ∧ gI h (o + 14) c = dBarr L c ∧ gI h (o + 12) c = dTold L c ∧ gI h (o + 6) (dHome L c) = dHow L (dHome L c)) ∧ (gI h o 13 = dForb L ∧ gI h o 14 = dLink L ∧ gI h o 15 = dBear L ∧ gI h o 16 = dSuck L ∧ gI h (o + 15) 5 = dUnit L) ∧ gI h o 12 = nI st ∧ gI h o 17 = nI sd
def Own (L : LD) (Fs : Nat → List (Int32 × Int32)) (FA : List (Int32 × Int32)) (am : Bool) : Prop := dN L = dNs L ∧ (∀ k, dApp L k = apv L Fs k (dC L)) ∧ (∀ c, dAbv L c = ovn L c (dC L)) ∧ ∀ k, dAim L k = amv L FA am k
def FoB (o c T : Nat) (pre : List (Int32 × Int32)) (h k : MH) (s : Nat) (F : List (Int32 × Int32)) : Prop := gI h (o + 17) c = nI s ∧ gI h (o + 18) c = nI (s + F.length) ∧ s + F.length ≤ pre.length ∧ (∀ j st, F[j]? = some st → pre[s + j]? = some st) ∧ Wh T F 0 1 ∧ F.length ≤ 320 ∧ gI k 71 c = nI F.length ∧ ∀ j st, F[j]? = some st → gI k 69 (320 * c + j) = st.1 ∧ gI k 70 (320 * c + j) = st.2
theorem law_rel {x : Txt} {o i : Nat} {T R C : List Int64} {pre : List (Int32 × Int32)} {h0 k0 h k : MH} (r : Rel x o i C.length T R C pre h0 k0 h k) : ∃ (L : LD) (Fs : Nat → List (Int32 × Int32)) (ss : Nat → Nat) (FA : List (Int32 × Int32)) (sa : Nat) (am : Bool) (st sd n : Nat), LawB L ∧ Own L Fs FA am ∧ (st < 2 ^ dC L ∧ sd ≤ 999) ∧ LwO o L st sd h ∧ Fo2 o L Fs ss h ∧ Am2 o L FA sa am h ∧ MnR L Fs FA am st sd n k := by
  obtain ⟨⟨b1, b2⟩, -, ⟨⟨n1, n2, n3⟩, ⟨n4, n5, n6⟩, n7, n8, n9⟩, ⟨d1, d2, d3, d4, d5, ⟨q1, q2, q3, q4, q5, q6⟩⟩, ⟨⟨f1, f2, f3⟩, ⟨u, u1, u2, u3, u4⟩, f4, n, m1, m2, m3, m4, m5⟩, tp⟩ := r
  have hT4 : T.length ≤ 4 := n1.2.1
  have hR3 : R.length ≤ 3 := n4.2.1
  have hC12 : C.length ≤ 12 := n7.2.1
  have hx : TxB x := b1.2.1.1
  have hpre : pre.length ≤ 640 := by
    obtain ⟨p, hp, e⟩ := tks_at x hx i
    have a := tkn_bd hx hp
    rw [← e] at a
    have b := hx.1
    have c := f3.1
    have d := f3.2
    omega
  have H : ∀ c, ∃ q : Nat × List (Int32 × Int32), c < C.length → FoB o c T.length pre h k q.1 q.2 := fun c => by
    by_cases hc : c < C.length
    · obtain ⟨s, F, z⟩ := f4 c hc
      exact ⟨(s, F), fun _ => z⟩
    · exact ⟨(0, []), fun z => absurd z hc⟩
  obtain ⟨g, hg⟩ : ∃ g : Nat → Nat × List (Int32 × Int32), ∀ c, c < C.length → FoB o c T.length pre h k (g c).1 (g c).2 := ⟨fun c => Classical.choose (H c), fun c => Classical.choose_spec (H c)⟩
  have HA : ∃ (sa : Nat) (FA : List (Int32 × Int32)), n % 2 = 1 → FoB o 12 T.length pre h k sa FA := by
    by_cases hc : n % 2 = 1
    · obtain ⟨s, F, z⟩ := m4 hc
      exact ⟨s, F, fun _ => z⟩
    · exact ⟨0, [], fun z => absurd z hc⟩
  obtain ⟨sa, FA, hA⟩ := HA
  obtain ⟨st, e1, e2, e3⟩ := q1
  obtain ⟨fb, e4, e5, e6⟩ := q2
  obtain ⟨lk, e7, e8, e9⟩ := q3
  obtain ⟨br, e10, e11, e12⟩ := q4
  obtain ⟨sk, e13, e14, e15⟩ := q5
  obtain ⟨sd, e16, e17, e18⟩ := q6
  obtain ⟨L, ⟨lT, lR, lC, lN⟩, lH, lS, lD, lApp, lAbv, lAim⟩ := law_of T.length R.length C.length (fun c => (gI h (o + 10) c).toNatClampNeg) (fun t => (gI h (o + 3) t).toNatClampNeg) (fun i j => if i = 0 then gI h (o + 11) j else if i = 1 then gI h (o + 7) j else if i = 2 then gI h (o + 13) j else if i = 3 then gI k 83 j else if i = 4 then gI h (o + 14) j else if i = 8 then (if j = 0 then gI h o 13 else if j = 1 then gI h o 14 else if j = 2 then gI h o 15 else if j = 3 then gI h o 16 else gI h (o + 15) 5) else if i = 9 then gI k 78 j else gI k 81 j) (fun c => (g c).2) FA (decide (n % 2 = 1))
  have hSay : ∀ c, dSay L c = gI h (o + 11) c := fun c => lD 0 c (by decide) (by decide) (by decide)
  have hMem : ∀ c, dMem L c = gI h (o + 7) c := fun c => lD 1 c (by decide) (by decide) (by decide)
  have hNeed : ∀ c, dNeed L c = gI h (o + 13) c := fun c => lD 2 c (by decide) (by decide) (by decide)
  have hBars : ∀ c, dBars L c = gI k 83 c := fun c => lD 3 c (by decide) (by decide) (by decide)
  have hBarr : ∀ c, dBarr L c = gI h (o + 14) c := fun c => lD 4 c (by decide) (by decide) (by decide)
  have hForb : dForb L = gI h o 13 := lD 8 0 (by decide) (by decide) (by decide)
  have hLink : dLink L = gI h o 14 := lD 8 1 (by decide) (by decide) (by decide)
  have hBear : dBear L = gI h o 15 := lD 8 2 (by decide) (by decide) (by decide)
  have hSuck : dSuck L = gI h o 16 := lD 8 3 (by decide) (by decide) (by decide)
  have hUnit : dUnit L = gI h (o + 15) 5 := lD 8 4 (by decide) (by decide) (by decide)
  have hHow : ∀ t, dHow L t = gI k 78 t := fun t => lD 9 t (by decide) (by decide) (by decide)
  have hTold : ∀ c, dTold L c = gI k 81 c := fun c => lD 10 c (by decide) (by decide) (by decide)
  have hH : ∀ c, c < C.length → dHome L c < R.length ∧ gI h (o + 10) c = nI (dHome L c) ∧ gI k 79 c = nI (dHome L c) := fun c hc => by
    obtain ⟨⟨t, t1, t2, t3⟩, -⟩ := d3 c hc
    have e : dHome L c = t := by rw [lH c (by omega), t2]; exact tc_nI (by omega)
    rw [e]
    exact ⟨t1, t2, t3⟩
  have hZ : ∀ t, t < T.length → (2 ≤ dSize L t ∧ dSize L t ≤ 4) ∧ gI h (o + 3) t = nI (dSize L t) ∧ gI k 77 t = nI (dSize L t) := fun t ht => by
    obtain ⟨s, s1, s2, s3, s4⟩ := d1 t ht
    have e : dSize L t = s := by rw [lS t, s3]; exact tc_nI (by omega)
    rw [e]
    exact ⟨⟨s1, s2⟩, s3, s4⟩
  have hSz : SzB L := ⟨by rw [lT]; exact hT4, fun t ht => (hZ t (by rw [lT] at ht; exact ht)).1⟩
  have hNb := dNs_b hSz
  have hF : ∀ c, c < dC L → FoB o c (dT L) pre h k (g c).1 (g c).2 := fun c hc => by rw [lT]; exact hg c (by rw [lC] at hc; exact hc)
  have hA' : n % 2 = 1 → FoB o 12 (dT L) pre h k sa FA := fun z => by rw [lT]; exact hA z
  have c12 : dC L ≤ 12 := by rw [lC]; exact hC12
  refine ⟨L, fun c => (g c).2, fun c => (g c).1, FA, sa, decide (n % 2 = 1), st, sd, n, ⟨⟨hSz.1, by rw [lR]; exact hR3, c12, by rw [lN]; exact hNb.1, by rw [lN]; exact hNb.2⟩, fun c hc => ?_, fun t ht => ?_, fun j hj => ?_, fun c hc => ?_, fun c hc => ?_, fun c y hc hy => ?_, ⟨fb, by rw [lC]; exact e4, by rw [hForb]; exact e5⟩, ⟨br, sk, e10, e13, by rw [hBear]; exact e11, by rw [hSuck]; exact e14⟩, hSz.2⟩, ⟨lN, lApp, lAbv, lAim⟩, ⟨by rw [lC]; exact e1, e16⟩, ⟨⟨by rw [lT]; exact n1.2.2.1, by rw [lR]; exact n4.2.2.1, by rw [lC]; exact n7.2.2.1⟩, fun t ht => (hZ t (by rw [lT] at ht; exact ht)).2.1, fun t ht => (hMem t).symm, fun c hc => ?_, ⟨hForb.symm, hLink.symm, hBear.symm, hSuck.symm, hUnit.symm⟩, e2, e17⟩, ⟨⟨by rw [lC]; exact n7.2.2.1, c12⟩, fun c hc => ?_⟩, ?_, ⟨⟨by rw [lT]; exact n3, by rw [lR]; exact n6, by rw [lC]; exact n9, c12⟩, fun t ht => (hZ t (by rw [lT] at ht; exact ht)).2.2, fun t ht => (hHow t).symm, fun c hc => ?_, ⟨by rw [hLink, e8]; exact e9, e3, by rw [lC]; exact e1, by rw [hForb, e5]; exact e6, by rw [hBear, e11]; exact e12, by rw [hSuck, e14]; exact e15, e18, by rw [hUnit, u3]; exact u4, m3, m1, rfl⟩, fun c hc => ?_, fun z => ?_⟩⟩
  · rw [lC] at hc
    obtain ⟨-, ⟨v, v1, v2, -⟩, -⟩ := d3 c hc
    exact ⟨by rw [lR]; exact (hH c hc).1, v, v1, by rw [hSay]; exact v2⟩
  · obtain ⟨m, z1, z2, z3⟩ := d5 t ht
    refine ⟨m, by rw [lC]; exact z1, by rw [hMem]; exact z2, fun c hc => ?_⟩
    rw [lC] at hc
    rw [z3 c hc, (hH c hc).2.1, eq_nI (by have := (hH c hc).1; omega) (by omega)]
  · rw [lApp]
    exact apv_n L _ j (dC L) c12
  · rw [lAbv]
    exact ovn_n L c (dC L) c12
  · rw [lC] at hc
    obtain ⟨-, -, -, ⟨a, a1, a2, -⟩, b, b1, b2⟩ := d3 c hc
    obtain ⟨w, w1, w2, -⟩ := d4.2 c (by omega)
    rw [lC]
    exact ⟨b, w, a, b1, w1, a1, by rw [hBars]; exact b2, by rw [hBarr]; exact w2, by rw [hNeed]; exact a2⟩
  · rw [lC] at hc hy
    obtain ⟨w, w1, w2, w3⟩ := d4.2 c (by omega)
    rw [bit_tb _ (by omega), bit_tb _ (by omega), hBarr, hBars, w2, w3 y hy]
  · rw [lC] at hc
    obtain ⟨-, -, ⟨a, a1, a2, a3⟩, -⟩ := d3 c hc
    refine ⟨(hH c hc).2.1, (hSay c).symm, (hNeed c).symm, (hBarr c).symm, by rw [hTold, a2]; exact a3.symm, ?_⟩
    rw [hHow]
    exact d2 _ (hH c hc).1
  · obtain ⟨y1, y2, y3, y4, y5, -⟩ := hF c hc
    exact ⟨y1, y2, Nat.le_trans y3 hpre, fun j s hj => f2 _ s (y4 j s hj), Wh_S _ _ y5⟩
  · by_cases z : n % 2 = 1
    · obtain ⟨y1, y2, y3, y4, y5, -⟩ := hA' z
      exact Or.inr ⟨decide_eq_true z, y1, y2, Nat.le_trans y3 hpre, fun j s hj => f2 _ s (y4 j s hj), Wh_S _ _ y5⟩
    · exact Or.inl ⟨decide_eq_false z, m5 (by omega)⟩
  · rw [lC] at hc
    obtain ⟨-, ⟨v, -, v2, v3⟩, ⟨a, -, a2, a3⟩, ⟨b, -, b2, b3⟩, -⟩ := d3 c hc
    exact ⟨(hH c hc).2.2, by have := (hH c hc).1; omega, by rw [hSay, v2]; exact v3, (hTold c).symm, by rw [hNeed, b2]; exact b3, (hBars c).symm⟩
  · obtain ⟨-, -, -, -, y5, y6, y7, y8⟩ := hF c hc
    exact ⟨y6, y7, y8, Wh_S _ _ y5⟩
  · obtain ⟨-, -, -, -, y5, y6, y7, y8⟩ := hA' (of_decide_eq_true z)
    exact ⟨y6, y7, y8, Wh_S _ _ y5⟩
