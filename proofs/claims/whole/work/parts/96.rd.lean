/-! the tokens one after another -/
def tks (x : Txt) : Nat → Tk
  | 0 => tkn x 0
  | i + 1 => tkn x (tkE (tks x i))
theorem tkn_bd {x : Txt} (hx : TxB x) {p : Nat} (hp : p ≤ x.1) : p ≤ tkS (tkn x p) ∧ tkS (tkn x p) ≤ tkE (tkn x p) ∧ tkE (tkn x p) ≤ x.1 ∧ (¬ tkK (tkn x p) = 0 → tkS (tkn x p) < tkE (tkn x p) ∧ tkS (tkn x p) < x.1) ∧ tkK (tkn x p) ≤ 4 ∧ (tkK (tkn x p) = 0 → tkE (tkn x p) = x.1) := by
  have h1 := lng_ge pB x 1601 p
  have h2 := lng_le hx (show pB 256 = false by decide) 1601 p hp
  unfold tkn
  generalize lng pB x 1601 p = s at *
  by_cases c : bty x s = 256
  · rw [if_pos c]
    have := (bty_256 hx).mp c
    refine ⟨h1, Nat.le_refl _, h2, fun q => absurd rfl q, Nat.zero_le 4, fun _ => ?_⟩
    show s = x.1
    omega
  · rw [if_neg c]
    have c' : s < x.1 := Nat.lt_of_not_le (fun q => c ((bty_256 hx).mpr q))
    by_cases a : pL (bty x s) = true
    · rw [if_pos a]
      have h3 : s + 1 ≤ lng pL x 1601 s := lng_pos a
      have h4 := lng_le hx (show pL 256 = false by decide) 1601 s h2
      refine ⟨h1, Nat.le_of_succ_le h3, h4, fun _ => ⟨h3, c'⟩, ?_, ?_⟩
      · show (if _ then 2 else 1) ≤ 4
        by_cases w : lng pL x 1601 s - s ≤ 8
        · rw [if_pos w]; omega
        · rw [if_neg w]; omega
      · intro q
        exfalso
        have q : (if lng pL x 1601 s - s ≤ 8 then 2 else 1) = 0 := q
        by_cases w : lng pL x 1601 s - s ≤ 8
        · rw [if_pos w] at q; omega
        · rw [if_neg w] at q; omega
    · rw [if_neg a]
      by_cases b : pD (bty x s) = true
      · rw [if_pos b]
        have h3 : s + 1 ≤ lng pD x 1601 s := lng_pos b
        have h4 := lng_le hx (show pD 256 = false by decide) 1601 s h2
        refine ⟨h1, Nat.le_of_succ_le h3, h4, fun _ => ⟨h3, c'⟩, ?_, ?_⟩
        · show (if _ then 3 else 1) ≤ 4
          by_cases w : lng pD x 1601 s - s ≤ 4 ∧ pL (bty x (lng pD x 1601 s)) = false
          · rw [if_pos w]; omega
          · rw [if_neg w]; omega
        · intro q
          exfalso
          have q : (if lng pD x 1601 s - s ≤ 4 ∧ pL (bty x (lng pD x 1601 s)) = false then 3 else 1) = 0 := q
          by_cases w : lng pD x 1601 s - s ≤ 4 ∧ pL (bty x (lng pD x 1601 s)) = false
          · rw [if_pos w] at q; omega
          · rw [if_neg w] at q; omega
      · rw [if_neg b]
        refine ⟨h1, by show s ≤ s + 1; omega, by show s + 1 ≤ x.1; omega, fun _ => ⟨by show s < s + 1; omega, c'⟩, ?_, ?_⟩
        · show (if _ then 4 else 1) ≤ 4
          by_cases w : pG (bty x s) = true
          · rw [if_pos w]; omega
          · rw [if_neg w]; omega
        · intro q
          exfalso
          have q : (if pG (bty x s) = true then 4 else 1) = 0 := q
          by_cases w : pG (bty x s) = true
          · rw [if_pos w] at q; omega
          · rw [if_neg w] at q; omega
theorem tks_e {x : Txt} (hx : TxB x) : ∀ i, tkE (tks x i) ≤ x.1
  | 0 => (tkn_bd hx (Nat.zero_le _)).2.2.1
  | i + 1 => (tkn_bd hx (tks_e hx i)).2.2.1
theorem tks_k {x : Txt} (hx : TxB x) : ∀ i, ¬ tkK (tks x i) = 0 → i ≤ tkS (tks x i) ∧ tkS (tks x i) < tkE (tks x i) ∧ tkS (tks x i) < x.1
  | 0, h => ⟨Nat.zero_le _, (tkn_bd hx (Nat.zero_le _)).2.2.2.1 h⟩
  | i + 1, h => by
    have b := tkn_bd hx (tks_e hx i)
    have b4 := b.2.2.2.1 h
    refine ⟨?_, b4⟩
    by_cases c : tkK (tks x i) = 0
    · have e : tkE (tks x i) = x.1 := by
        cases i with
        | zero => exact (tkn_bd hx (Nat.zero_le _)).2.2.2.2.2 c
        | succ j => exact (tkn_bd hx (tks_e hx j)).2.2.2.2.2 c
      have b1 := b.1
      have b5 : tkS (tkn x (tkE (tks x i))) < x.1 := b4.2
      omega
    · have ih := tks_k hx i c
      have b1 : tkE (tks x i) ≤ tkS (tks x (i + 1)) := b.1
      omega
theorem tks_S {x : Txt} (hx : TxB x) (i : Nat) : tkE (tks x i) ≤ tkS (tks x (i + 1)) := (tkn_bd hx (tks_e hx i)).1
theorem tks_5 {x : Txt} (hx : TxB x) (i : Nat) : tkK (tks x i) ≤ 4 := by
  cases i with
  | zero => exact (tkn_bd hx (Nat.zero_le _)).2.2.2.2.1
  | succ j => exact (tkn_bd hx (tks_e hx j)).2.2.2.2.1
theorem tks_lt {x : Txt} (hx : TxB x) {i : Nat} (h : ¬ tkK (tks x i) = 0) : i < 1600 := by
  have := tks_k hx i h
  have := hx.1
  omega
/-- a word's length in bytes: a word of three letters, not followed by a letter -/
theorem tkn_word {x : Txt} (hx : TxB x) {p : Nat} (hp : p ≤ x.1) (h : tkK (tkn x p) = 2) : tkE (tkn x p) - tkS (tkn x p) ≤ 8 ∧ tkW (tkn x p) = wv x (tkS (tkn x p)) (tkE (tkn x p) - tkS (tkn x p)) ∧ (∀ j, tkS (tkn x p) ≤ j → j < tkE (tkn x p) → pL (bty x j) = true) ∧ pL (bty x (tkE (tkn x p))) = false := by
  have h1 := lng_ge pB x 1601 p
  have h2 := lng_le hx (show pB 256 = false by decide) 1601 p hp
  have hx1 := hx.1
  unfold tkn at h ⊢
  generalize lng pB x 1601 p = s at *
  by_cases c : bty x s = 256
  · rw [if_pos c] at h; simp only [tkK] at h; omega
  · rw [if_neg c] at h ⊢
    by_cases a : pL (bty x s) = true
    · rw [if_pos a] at h ⊢
      by_cases w : lng pL x 1601 s - s ≤ 8
      · exact ⟨w, rfl, fun j q1 q2 => lng_in 1601 s j q1 q2, lng_out hx (by decide) 1601 s (by omega)⟩
      · simp only [tkK, if_neg w] at h; omega
    · rw [if_neg a] at h
      by_cases b : pD (bty x s) = true
      · rw [if_pos b] at h
        by_cases w : lng pD x 1601 s - s ≤ 4 ∧ pL (bty x (lng pD x 1601 s)) = false
        · simp only [tkK, if_pos w] at h; omega
        · simp only [tkK, if_neg w] at h; omega
      · rw [if_neg b] at h
        by_cases w : pG (bty x s) = true
        · simp only [tkK, if_pos w] at h; omega
        · simp only [tkK, if_neg w] at h; omega
theorem tkn_num {x : Txt} (hx : TxB x) {p : Nat} (hp : p ≤ x.1) (h : tkK (tkn x p) = 3) : tkV (tkn x p) ≤ 9999 := by
  have h1 := lng_ge pB x 1601 p
  have h2 := lng_le hx (show pB 256 = false by decide) 1601 p hp
  have hx1 := hx.1
  unfold tkn at h ⊢
  generalize lng pB x 1601 p = s at *
  by_cases c : bty x s = 256
  · rw [if_pos c] at h; simp only [tkK] at h; omega
  · rw [if_neg c] at h ⊢
    by_cases a : pL (bty x s) = true
    · rw [if_pos a] at h
      by_cases w : lng pL x 1601 s - s ≤ 8
      · simp only [tkK, if_pos w] at h; omega
      · simp only [tkK, if_neg w] at h; omega
    · rw [if_neg a] at h ⊢
      by_cases b : pD (bty x s) = true
      · rw [if_pos b] at h ⊢
        by_cases w : lng pD x 1601 s - s ≤ 4 ∧ pL (bty x (lng pD x 1601 s)) = false
        · have := nv_lt (x := x) (s := s) (lng pD x 1601 s - s) (fun j hj => lng_in 1601 s (s + j) (by omega) (by omega))
          have h10 : 10 ^ (lng pD x 1601 s - s) ≤ 10 ^ 4 := Nat.pow_le_pow_right (by omega) w.1
          show nv x s (lng pD x 1601 s - s) ≤ 9999
          omega
        · simp only [tkK, if_neg w] at h; omega
      · rw [if_neg b] at h
        by_cases w : pG (bty x s) = true
        · simp only [tkK, if_pos w] at h; omega
        · simp only [tkK, if_neg w] at h; omega
theorem tkn_sign {x : Txt} {p : Nat} (h : tkK (tkn x p) = 4) : pG (tkV (tkn x p)) = true := by
  unfold tkn at h ⊢
  generalize lng pB x 1601 p = s at *
  by_cases c : bty x s = 256
  · rw [if_pos c] at h; simp only [tkK] at h; omega
  · rw [if_neg c] at h ⊢
    by_cases a : pL (bty x s) = true
    · rw [if_pos a] at h
      by_cases w : lng pL x 1601 s - s ≤ 8
      · simp only [tkK, if_pos w] at h; omega
      · simp only [tkK, if_neg w] at h; omega
    · rw [if_neg a] at h ⊢
      by_cases b : pD (bty x s) = true
      · rw [if_pos b] at h
        by_cases w : lng pD x 1601 s - s ≤ 4 ∧ pL (bty x (lng pD x 1601 s)) = false
        · simp only [tkK, if_pos w] at h; omega
        · simp only [tkK, if_neg w] at h; omega
      · rw [if_neg b] at h ⊢
        by_cases w : pG (bty x s) = true
        · exact w
        · simp only [tkK, if_neg w] at h; omega
theorem tks_at (x : Txt) (hx : TxB x) (i : Nat) : ∃ p, p ≤ x.1 ∧ tks x i = tkn x p := by
  cases i with
  | zero => exact ⟨0, Nat.zero_le _, rfl⟩
  | succ j => exact ⟨_, tks_e hx j, rfl⟩
/-- behind a word of three letters the next token stands three bytes on, a word four -/
theorem tks_not {x : Txt} (hx : TxB x) {i : Nat} (h : tkK (tks x i) = 2) (hw : tkW (tks x i) = 7237492) : tkS (tks x i) + 3 ≤ tkS (tks x (i + 1)) ∧ (tkK (tks x (i + 1)) = 2 → tkS (tks x i) + 4 ≤ tkS (tks x (i + 1))) := by
  obtain ⟨p, hp, e⟩ := tks_at x hx i
  have b := tkn_bd hx hp
  have n1 := tks_S hx i
  rw [← e] at b
  have w := tkn_word hx hp (by rw [← e]; exact h)
  rw [← e, hw] at w
  obtain ⟨w1, w2, w3, w4⟩ := w
  have hlt := (tks_k hx i (by omega)).2.1
  have h3 : tkS (tks x i) + 3 ≤ tkE (tks x i) := by
    apply Nat.le_of_not_lt
    intro q
    rcases (show tkE (tks x i) - tkS (tks x i) = 1 ∨ tkE (tks x i) - tkS (tks x i) = 2 by omega) with r | r
    · rw [r] at w2
      have a0 := w3 (tkS (tks x i)) (Nat.le_refl _) hlt
      have k : ∀ j : Fin 123, pL j.val = true → ¬ (7237492 : Int64) = ((0 : Int64) <<< ((8 : Int32).toInt64 &&& 63)) ||| (nI j.val).toInt64 := by decide +kernel
      exact k ⟨bty x (tkS (tks x i)), by have := pL_lt a0; omega⟩ a0 w2
    · rw [r] at w2
      have a0 := w3 (tkS (tks x i)) (Nat.le_refl _) hlt
      have a1 := w3 (tkS (tks x i) + 1) (by omega) (by omega)
      have k : ∀ j : Fin 26, ∀ l : Fin 26, ¬ (7237492 : Int64) = ((((0 : Int64) <<< ((8 : Int32).toInt64 &&& 63)) ||| (nI (j.val + 97)).toInt64) <<< ((8 : Int32).toInt64 &&& 63)) ||| (nI (l.val + 97)).toInt64 := by decide +kernel
      have q0 := pL_lt a0
      have q1 := pL_lt a1
      have k := k ⟨bty x (tkS (tks x i)) - 97, by omega⟩ ⟨bty x (tkS (tks x i) + 1) - 97, by omega⟩
      simp only at k
      rw [show bty x (tkS (tks x i)) - 97 + 97 = bty x (tkS (tks x i)) by omega, show bty x (tkS (tks x i) + 1) - 97 + 97 = bty x (tkS (tks x i) + 1) by omega] at k
      exact k w2
  refine ⟨by omega, fun q => ?_⟩
  apply Nat.lt_of_le_of_ne (by omega : tkS (tks x i) + 3 ≤ tkS (tks x (i + 1)))
  intro z
  have hz : tkS (tks x (i + 1)) = tkE (tks x i) := by omega
  have w' := tkn_word hx (tks_e hx i) q
  have hb := w'.2.2.1 (tkS (tks x (i + 1))) (Nat.le_refl _) (tks_k hx (i + 1) (by omega)).2.1
  rw [hz, w4] at hb
  cases hb
