/-! parties: turns by turns -/
def bt (most : Bool) (a b : Nat) : Bool := if most = true then decide (b < a) else decide (a < b)
def clS (cand : Nat → Bool) (v : Nat → Nat) (v0 : Nat) (most : Bool) : Nat → Nat × Option Nat
  | 0 => (v0, none)
  | c + 1 => if cand c = true ∧ (bt most (v c) (clS cand v v0 most c).1 = true ∨ v c = (clS cand v v0 most c).1 ∧ (clS cand v v0 most c).2 = none) then (v c, some c) else clS cand v v0 most c
def rfS (cand : Nat → Bool) (v : Nat → Nat) (most : Bool) : Nat → Option (Nat × Nat)
  | 0 => none
  | c + 1 => if cand c = true then (match rfS cand v most c with
    | none => some (v c, c)
    | some q => if bt most (v c) q.1 = true then some (v c, c) else some q) else rfS cand v most c
def rfE (cand : Nat → Bool) (v : Nat → Nat) (v0 : Nat) (most : Bool) (C : Nat) : Nat × Nat := match rfS cand v most C with
  | none => (v0, C)
  | some q => if bt most v0 q.1 = true then (v0, C) else q
/-- how the two stand to one another -/
theorem clS_rfS {cand : Nat → Bool} {v : Nat → Nat} {v0 : Nat} {most : Bool} : ∀ c, (rfS cand v most c = none ∧ clS cand v v0 most c = (v0, none)) ∨ (∃ q, rfS cand v most c = some q ∧ q.2 < c ∧ ((bt most v0 q.1 = true ∧ clS cand v v0 most c = (v0, none)) ∨ (bt most v0 q.1 = false ∧ clS cand v v0 most c = (q.1, some q.2))))
  | 0 => Or.inl ⟨rfl, rfl⟩
  | c + 1 => by
    have ih := clS_rfS (cand := cand) (v := v) (v0 := v0) (most := most) c
    by_cases hc : cand c = true
    · rcases ih with ⟨i1, i2⟩ | ⟨q, i1, i2, i3⟩
      · have r : rfS cand v most (c + 1) = some (v c, c) := by
          show (if _ then _ else _) = _
          rw [if_pos hc, i1]
        refine Or.inr ⟨(v c, c), r, by show c < c + 1; omega, ?_⟩
        have s : clS cand v v0 most (c + 1) = if bt most (v c) v0 = true ∨ v c = v0 then (v c, some c) else (v0, none) := by
          show (if _ then _ else _) = _
          rw [i2]
          by_cases d : bt most (v c) v0 = true ∨ v c = v0
          · rw [if_pos d, if_pos ⟨hc, d.imp id (fun z => ⟨z, rfl⟩)⟩]
          · rw [if_neg d, if_neg (fun z => d (z.2.imp id (fun y => y.1)))]
        rw [s]
        unfold bt
        cases most
        · simp only [Bool.false_eq_true, if_false, decide_eq_true_eq, decide_eq_false_iff_not]
          by_cases d : v c < v0 ∨ v c = v0
          · rw [if_pos d]; exact Or.inr ⟨by omega, rfl⟩
          · rw [if_neg d]; exact Or.inl ⟨by omega, rfl⟩
        · simp only [if_true, decide_eq_true_eq, decide_eq_false_iff_not]
          by_cases d : v0 < v c ∨ v c = v0
          · rw [if_pos d]; exact Or.inr ⟨by omega, rfl⟩
          · rw [if_neg d]; exact Or.inl ⟨by omega, rfl⟩
      · have r : rfS cand v most (c + 1) = if bt most (v c) q.1 = true then some (v c, c) else some q := by
          show (if _ then _ else _) = _
          rw [if_pos hc, i1]
        rw [r]
        rcases i3 with ⟨j1, j2⟩ | ⟨j1, j2⟩
        · have s : clS cand v v0 most (c + 1) = if bt most (v c) v0 = true ∨ v c = v0 then (v c, some c) else (v0, none) := by
            show (if _ then _ else _) = _
            rw [j2]
            by_cases d : bt most (v c) v0 = true ∨ v c = v0
            · rw [if_pos d, if_pos ⟨hc, d.imp id (fun z => ⟨z, rfl⟩)⟩]
            · rw [if_neg d, if_neg (fun z => d (z.2.imp id (fun y => y.1)))]
          rw [s]
          unfold bt at j1 ⊢
          cases most
          · simp only [Bool.false_eq_true, if_false, decide_eq_true_eq, decide_eq_false_iff_not] at j1 ⊢
            by_cases d : v c < v0 ∨ v c = v0
            · rw [if_pos d, if_pos (by omega)]; exact Or.inr ⟨(v c, c), rfl, by show c < c + 1; omega, Or.inr ⟨by show ¬ v0 < v c; omega, rfl⟩⟩
            · rw [if_neg d]
              by_cases e : v c < q.1
              · rw [if_pos e]; exact Or.inr ⟨(v c, c), rfl, by show c < c + 1; omega, Or.inl ⟨by show v0 < v c; omega, rfl⟩⟩
              · rw [if_neg e]; exact Or.inr ⟨q, rfl, by omega, Or.inl ⟨by omega, rfl⟩⟩
          · simp only [if_true, decide_eq_true_eq, decide_eq_false_iff_not] at j1 ⊢
            by_cases d : v0 < v c ∨ v c = v0
            · rw [if_pos d, if_pos (by omega)]; exact Or.inr ⟨(v c, c), rfl, by show c < c + 1; omega, Or.inr ⟨by show ¬ v c < v0; omega, rfl⟩⟩
            · rw [if_neg d]
              by_cases e : q.1 < v c
              · rw [if_pos e]; exact Or.inr ⟨(v c, c), rfl, by show c < c + 1; omega, Or.inl ⟨by show v c < v0; omega, rfl⟩⟩
              · rw [if_neg e]; exact Or.inr ⟨q, rfl, by omega, Or.inl ⟨by omega, rfl⟩⟩
        · have s : clS cand v v0 most (c + 1) = if bt most (v c) q.1 = true then (v c, some c) else (q.1, some q.2) := by
            show (if _ then _ else _) = _
            rw [j2]
            by_cases d : bt most (v c) q.1 = true
            · rw [if_pos d, if_pos ⟨hc, Or.inl d⟩]
            · rw [if_neg d, if_neg (fun z => z.2.elim d (fun y => by cases y.2))]
          rw [s]
          unfold bt at j1 ⊢
          cases most
          · simp only [Bool.false_eq_true, if_false, decide_eq_true_eq, decide_eq_false_iff_not] at j1 ⊢
            by_cases e : v c < q.1
            · rw [if_pos e, if_pos e]; exact Or.inr ⟨(v c, c), rfl, by show c < c + 1; omega, Or.inr ⟨by show ¬ v0 < v c; omega, rfl⟩⟩
            · rw [if_neg e, if_neg e]; exact Or.inr ⟨q, rfl, by omega, Or.inr ⟨j1, rfl⟩⟩
          · simp only [if_true, decide_eq_true_eq, decide_eq_false_iff_not] at j1 ⊢
            by_cases e : q.1 < v c
            · rw [if_pos e, if_pos e]; exact Or.inr ⟨(v c, c), rfl, by show c < c + 1; omega, Or.inr ⟨by show ¬ v c < v0; omega, rfl⟩⟩
            · rw [if_neg e, if_neg e]; exact Or.inr ⟨q, rfl, by omega, Or.inr ⟨j1, rfl⟩⟩
    · have r : rfS cand v most (c + 1) = rfS cand v most c := by
        show (if _ then _ else _) = _
        rw [if_neg hc]
      have s : clS cand v v0 most (c + 1) = clS cand v v0 most c := by
        show (if _ then _ else _) = _
        rw [if_neg (fun z => hc z.1)]
      rw [r, s]
      rcases ih with i | ⟨q, i1, i2, i3⟩
      · exact Or.inl i
      · exact Or.inr ⟨q, i1, by omega, i3⟩
theorem rfE_clS {cand : Nat → Bool} {v : Nat → Nat} {v0 : Nat} {most : Bool} {C : Nat} : rfE cand v v0 most C = ((clS cand v v0 most C).1, (clS cand v v0 most C).2.getD C) := by
  unfold rfE
  rcases clS_rfS (cand := cand) (v := v) (v0 := v0) (most := most) C with ⟨i1, i2⟩ | ⟨q, i1, i2, ⟨j1, j2⟩ | ⟨j1, j2⟩⟩
  · rw [i1, i2]; rfl
  · rw [i1, j2]
    show (if _ then _ else _) = _
    rw [if_pos j1]; rfl
  · rw [i1, j2]
    show (if _ then _ else _) = _
    rw [if_neg (by rw [j1]; decide)]; rfl
theorem clS_beyond {cand : Nat → Bool} {v : Nat → Nat} {v0 : Nat} {most : Bool} {n : Nat} : ∀ d, (∀ c, n ≤ c → c < n + d → cand c = false) → clS cand v v0 most (n + d) = clS cand v v0 most n
  | 0, _ => rfl
  | d + 1, h => by
    rw [show n + (d + 1) = n + d + 1 by omega]
    show (if _ then _ else _) = _
    rw [if_neg (fun z => by rw [h (n + d) (by omega) (by omega)] at z; exact absurd z.1 (by decide))]
    exact clS_beyond d (fun c h1 h2 => h c h1 (by omega))
theorem clS_congr {cand cand' : Nat → Bool} {v v' : Nat → Nat} {v0 v0' : Nat} {most : Bool} (h0 : v0 = v0') (h1 : ∀ c, c < 12 → cand c = cand' c ∧ v c = v' c) : ∀ n, n ≤ 12 → clS cand v v0 most n = clS cand' v' v0' most n
  | 0, _ => by unfold clS; rw [h0]
  | n + 1, hn => by
    have ih := clS_congr (most := most) h0 h1 n (by omega)
    obtain ⟨a, b⟩ := h1 n (by omega)
    unfold clS
    rw [ih, a, b]
/-- what all pay -/
def ps (L : LD) (t : Nat) (x : Int32) : Nat → Nat
  | 0 => 0
  | k + 1 => ps L t x k + payN L x t k
theorem ps_le {L : LD} (hB : LawB L) {t : Nat} {x : Int32} : ∀ k, ps L t x k ≤ 99 * k
  | 0 => Nat.le_refl _
  | k + 1 => by
    have := ps_le hB (t := t) (x := x) k
    have h2 := (payN_s hB x t k).1
    show ps L t x k + payN L x t k ≤ _
    omega
/-- the worth of a set, so many turns ahead, and the first choice -/
def gm (L : LD) (t : Nat) : Nat → Bool → Int32 → Nat × Option Nat
  | 0, _, x => (ps L t x (dN L), none)
  | n + 1, most, x => clS (fun c => tbt (dMem L t) c && !tbt x c) (fun c => (gm L t n (!most) (x ||| one c)).1) (gm L t n (!most) x).1 most (dC L)
theorem pay_mask {L : LD} {x y : Int32} {t : Nat} (h : x &&& dMem L t = y &&& dMem L t) (k : Nat) : payN L x t k = payN L y t k := by
  unfold payN pay fol
  rw [h]
theorem ps_mask {L : LD} {x y : Int32} {t : Nat} (h : x &&& dMem L t = y &&& dMem L t) : ∀ k, ps L t x k = ps L t y k
  | 0 => rfl
  | k + 1 => by
    show ps L t x k + payN L x t k = ps L t y k + payN L y t k
    rw [ps_mask h k, pay_mask h k]
theorem gm_mask {L : LD} (hB : LawB L) {t : Nat} : ∀ n most (x y : Int32), x &&& dMem L t = y &&& dMem L t → gm L t n most x = gm L t n most y
  | 0, most, x, y, h => by
    show (ps L t x (dN L), none) = (ps L t y (dN L), none)
    rw [ps_mask h]
  | n + 1, most, x, y, h => by
    refine clS_congr ?_ (fun c hc => ⟨?_, ?_⟩) (dC L) hB.1.2.2.1
    · rw [gm_mask hB n (!most) x y h]
    · have := congrArg (fun z => tbt z c) h
      simp only [tbt_and] at this
      cases a : tbt (dMem L t) c
      · rfl
      · rw [a, Bool.and_true, Bool.and_true] at this
        rw [this]
    · rw [gm_mask hB n (!most) (x ||| one c) (y ||| one c) (by
        apply tbt_ext
        intro i hi
        have := congrArg (fun z => tbt z i) h
        simp only [tbt_and] at this
        simp only [tbt_and, tbt_or]
        cases a : tbt (dMem L t) i
        · simp
        · rw [a, Bool.and_true, Bool.and_true] at this
          rw [this])]
theorem clS_le {cand : Nat → Bool} {v : Nat → Nat} {v0 B : Nat} {most : Bool} (h0 : v0 ≤ B) (h1 : ∀ c, v c ≤ B) : ∀ c, (clS cand v v0 most c).1 ≤ B
  | 0 => h0
  | c + 1 => by
    show (if _ then _ else _ : Nat × Option Nat).1 ≤ B
    split
    · exact h1 c
    · exact clS_le h0 h1 c
theorem gm_le {L : LD} (hB : LawB L) {t : Nat} : ∀ n most (x : Int32), (gm L t n most x).1 ≤ 25344
  | 0, most, x => by
    have := ps_le hB (t := t) (x := x) (dN L)
    have hb := hB.1
    show ps L t x (dN L) ≤ _
    omega
  | n + 1, most, x => clS_le (gm_le hB n _ _) (fun c => gm_le hB n _ _) _
theorem clS_ch {cand : Nat → Bool} {v : Nat → Nat} {v0 : Nat} {most : Bool} : ∀ c x, (clS cand v v0 most c).2 = some x → x < c
  | 0, x, h => by cases h
  | c + 1, x, h => by
    change (if _ then _ else _ : Nat × Option Nat).2 = some x at h
    split at h
    · have : c = x := by simpa using h
      omega
    · have := clS_ch c x h
      omega
