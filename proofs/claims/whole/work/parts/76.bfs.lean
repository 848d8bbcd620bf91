/-! ways through sets of clauses: what is come to, one behind another (a set, the place of that it was come to from, the clause) -/
abbrev Ent : Type := Nat × Nat × Nat
def hsS (E : List Ent) (s : Nat) : Bool := E.any (fun e => e.1 == s)
theorem hsS_t {E : List Ent} {s : Nat} : hsS E s = true ↔ ∃ (j : Nat) (e : Ent), E[j]? = some e ∧ e.1 = s := by
  unfold hsS
  rw [List.any_eq_true]
  constructor
  · rintro ⟨e, he, q⟩
    obtain ⟨j, hj⟩ := List.getElem?_of_mem he
    exact ⟨j, e, hj, by simpa using q⟩
  · rintro ⟨j, e, he, q⟩
    exact ⟨e, List.mem_of_getElem? he, by simpa using q⟩
def cme (E : List Ent) (s f b : Nat) : List Ent := if hsS E s = true then E else E ++ [(s, f, b)]
def xpd (ok : Nat → Bool) (s f : Nat) : Nat → List Ent → List Ent
  | 0, E => E
  | c + 1, E => if ok c = true then cme (xpd ok s f c E) (s ^^^ 2 ^ c) f c else xpd ok s f c E
def bfs (ok : Nat → Nat → Bool) (C s0 : Nat) : Nat → List Ent
  | 0 => [(s0, 4096, 12)]
  | k + 1 => match (bfs ok C s0 k)[k]? with
    | some e => xpd (ok e.1) e.1 k C (bfs ok C s0 k)
    | none => bfs ok C s0 k
/-- one row goes on from another -/
def Pfx (E E' : List Ent) : Prop := E.length ≤ E'.length ∧ ∀ j, j < E.length → E'[j]? = E[j]?
theorem Pfx.rf (E : List Ent) : Pfx E E := ⟨Nat.le_refl _, fun _ _ => rfl⟩
theorem Pfx.trans {E E1 E2 : List Ent} (a : Pfx E E1) (b : Pfx E1 E2) : Pfx E E2 := ⟨Nat.le_trans a.1 b.1, fun j hj => (b.2 j (Nat.lt_of_lt_of_le hj a.1)).trans (a.2 j hj)⟩
theorem Pfx.get {E E' : List Ent} (a : Pfx E E') {j : Nat} {e : Ent} (h : E[j]? = some e) : E'[j]? = some e := by
  have hj : j < E.length := by
    rcases Nat.lt_or_ge j E.length with q | q
    · exact q
    · rw [List.getElem?_eq_none q] at h; cases h
  rw [a.2 j hj]; exact h
theorem Pfx.app (E T : List Ent) : Pfx E (E ++ T) := ⟨by rw [List.length_append]; omega, fun j hj => List.getElem?_append_left hj⟩
theorem cme_pfx {E : List Ent} {s f b : Nat} : Pfx E (cme E s f b) := by
  unfold cme
  split
  · exact Pfx.rf E
  · exact Pfx.app _ _
theorem xpd_pfx {ok : Nat → Bool} {s f : Nat} : ∀ c E, Pfx E (xpd ok s f c E)
  | 0, E => Pfx.rf E
  | c + 1, E => by
    unfold xpd
    split
    · exact (xpd_pfx c E).trans cme_pfx
    · exact xpd_pfx c E
theorem bf_pfx {ok : Nat → Nat → Bool} {C s0 : Nat} : ∀ d k, Pfx (bfs ok C s0 k) (bfs ok C s0 (k + d))
  | 0, k => Pfx.rf _
  | d + 1, k => by
    refine (bf_pfx d k).trans ?_
    rw [show k + (d + 1) = k + d + 1 by omega]
    show Pfx _ (match (bfs ok C s0 (k + d))[k + d]? with
    | some e => xpd (ok e.1) e.1 (k + d) C (bfs ok C s0 (k + d))
    | none => bfs ok C s0 (k + d))
    split
    · exact xpd_pfx _ _
    · exact Pfx.rf _
/-- no set twice; each but the first from one ahead of it -/
def Wl (C s0 : Nat) (E : List Ent) : Prop := E[0]? = some (s0, 4096, 12) ∧ (∀ (j : Nat) (e : Ent), E[j]? = some e → e.1 < 2 ^ C) ∧ (∀ (i j : Nat) (e e' : Ent), E[i]? = some e → E[j]? = some e' → e.1 = e'.1 → i = j) ∧ ∀ (j : Nat) (e : Ent), E[j]? = some e → 0 < j → e.2.1 < j ∧ e.2.2 < C ∧ ∃ e' : Ent, E[e.2.1]? = some e' ∧ e'.1 = e.1 ^^^ 2 ^ e.2.2
theorem ent_app {E : List Ent} {q e : Ent} {j : Nat} (h : (E ++ [q])[j]? = some e) : (j = E.length ∧ e = q) ∨ (j < E.length ∧ E[j]? = some e) := by
  rcases Nat.lt_or_ge j E.length with c | c
  · rw [List.getElem?_append_left c] at h
    exact Or.inr ⟨c, h⟩
  · rw [List.getElem?_append_right c] at h
    have : j - E.length = 0 := by
      rcases Nat.eq_zero_or_pos (j - E.length) with z | z
      · exact z
      · rw [List.getElem?_eq_none (by simp; omega)] at h
        cases h
    rw [this] at h
    simp at h
    exact Or.inl ⟨by omega, h.symm⟩
theorem xor_lt {s c C : Nat} (hs : s < 2 ^ C) (hc : c < C) : s ^^^ 2 ^ c < 2 ^ C := Nat.xor_lt_two_pow hs (Nat.pow_lt_pow_right (by omega) hc)
theorem Wl_cme {C s0 : Nat} {E : List Ent} {f c : Nat} {e : Ent} (w : Wl C s0 E) (hf : E[f]? = some e) (hc : c < C) : Wl C s0 (cme E (e.1 ^^^ 2 ^ c) f c) := by
  obtain ⟨w1, w2, w3, w4⟩ := w
  have he := w2 f e hf
  have hfl : f < E.length := by
    rcases Nat.lt_or_ge f E.length with q | q
    · exact q
    · rw [List.getElem?_eq_none q] at hf; cases hf
  unfold cme
  by_cases d : hsS E (e.1 ^^^ 2 ^ c) = true
  · rw [if_pos d]; exact ⟨w1, w2, w3, w4⟩
  · rw [if_neg d]
    have nd : ∀ (j : Nat) (e' : Ent), E[j]? = some e' → ¬ e'.1 = e.1 ^^^ 2 ^ c := fun j e' h1 h2 => d (hsS_t.mpr ⟨j, e', h1, h2⟩)
    refine ⟨(Pfx.app E _).get w1, fun j e' h => ?_, fun i j e1 e2 h1 h2 h3 => ?_, fun j e' h hj => ?_⟩
    · rcases ent_app h with ⟨-, rfl⟩ | ⟨-, h⟩
      · exact xor_lt he hc
      · exact w2 j e' h
    · rcases ent_app h1 with ⟨q1, rfl⟩ | ⟨q1, h1⟩
      · rcases ent_app h2 with ⟨q2, rfl⟩ | ⟨q2, h2⟩
        · omega
        · exact absurd h3.symm (nd j e2 h2)
      · rcases ent_app h2 with ⟨q2, rfl⟩ | ⟨q2, h2⟩
        · exact absurd h3 (nd i e1 h1)
        · exact w3 i j e1 e2 h1 h2 h3
    · rcases ent_app h with ⟨q, rfl⟩ | ⟨q, h⟩
      · refine ⟨by show f < j; omega, hc, e, (Pfx.app E _).get hf, ?_⟩
        show e.1 = e.1 ^^^ 2 ^ c ^^^ 2 ^ c
        rw [Nat.xor_assoc, Nat.xor_self, Nat.xor_zero]
      · obtain ⟨r1, r2, e'', r3, r4⟩ := w4 j e' h hj
        exact ⟨r1, r2, e'', (Pfx.app E _).get r3, r4⟩
theorem Wl_xpd {C s0 : Nat} {ok : Nat → Bool} {f : Nat} {e : Ent} : ∀ c E, c ≤ C → Wl C s0 E → E[f]? = some e → Wl C s0 (xpd ok e.1 f c E)
  | 0, E, _, w, _ => w
  | c + 1, E, hc, w, hf => by
    have ih := Wl_xpd (ok := ok) c E (by omega) w hf
    unfold xpd
    split
    · exact Wl_cme ih ((xpd_pfx c E).get hf) (by omega)
    · exact ih
theorem Wl_bf {ok : Nat → Nat → Bool} {C s0 : Nat} (h0 : s0 < 2 ^ C) : ∀ k, Wl C s0 (bfs ok C s0 k)
  | 0 => by
    refine ⟨rfl, fun j e h => ?_, fun i j e e' h1 h2 _ => ?_, fun j e h hj => ?_⟩
    · cases j with
      | zero => have := Option.some.inj h; rw [← this]; exact h0
      | succ j => simp [bfs] at h
    · cases i with
      | zero => cases j with
        | zero => rfl
        | succ j => simp [bfs] at h2
      | succ i => simp [bfs] at h1
    · cases j with
      | zero => omega
      | succ j => simp [bfs] at h
  | k + 1 => by
    have ih := Wl_bf (ok := ok) h0 k
    show Wl C s0 (match (bfs ok C s0 k)[k]? with
    | some e => xpd (ok e.1) e.1 k C (bfs ok C s0 k)
    | none => bfs ok C s0 k)
    split
    · rename_i e he
      exact Wl_xpd C _ (Nat.le_refl _) ih he
    · exact ih
/-- there are no more than the sets there are -/
theorem pig : ∀ (n : Nat) (l : List Nat), (∀ i j x : Nat, l[i]? = some x → l[j]? = some x → i = j) → (∀ x ∈ l, x < n) → l.length ≤ n
  | 0, l, _, h => by
    cases l with
    | nil => simp
    | cons a l => exact absurd (h a (by simp)) (by omega)
  | n + 1, l, h1, h2 => by
    by_cases c : n ∈ l
    · obtain ⟨i, hi⟩ := List.getElem?_of_mem c
      have hil : i < l.length := by
        rcases Nat.lt_or_ge i l.length with q | q
        · exact q
        · rw [List.getElem?_eq_none q] at hi; cases hi
      have := pig n (l.eraseIdx i) (fun a b x ha hb => by
        rw [List.getElem?_eraseIdx] at ha hb
        split at ha <;> split at hb <;> have := h1 _ _ x ha hb <;> omega) (fun x hx => by
        obtain ⟨j, hj⟩ := List.getElem?_of_mem hx
        rw [List.getElem?_eraseIdx] at hj
        split at hj
        · have q := h2 x (List.mem_of_getElem? hj)
          rcases Nat.lt_or_ge x n with z | z
          · exact z
          · have e : x = n := by omega
            rw [e] at hj
            have := h1 _ _ n hj hi
            omega
        · have q := h2 x (List.mem_of_getElem? hj)
          rcases Nat.lt_or_ge x n with z | z
          · exact z
          · have e : x = n := by omega
            rw [e] at hj
            have := h1 _ _ n hj hi
            omega)
      rw [List.length_eraseIdx_of_lt hil] at this
      omega
    · have := pig n l h1 (fun x hx => by
        have := h2 x hx
        have : ¬ x = n := fun e => c (e ▸ hx)
        omega)
      omega
theorem Wl.len {C s0 : Nat} {E : List Ent} (w : Wl C s0 E) : E.length ≤ 2 ^ C := by
  have := pig (2 ^ C) (E.map (fun e => e.1)) (fun i j x hi hj => by
    rw [List.getElem?_map] at hi hj
    cases a : E[i]? with
    | none => rw [a] at hi; cases hi
    | some e => cases b : E[j]? with
      | none => rw [b] at hj; cases hj
      | some e' =>
        rw [a] at hi
        rw [b] at hj
        exact w.2.2.1 i j e e' a b ((Option.some.inj hi).trans (Option.some.inj hj).symm)) (fun x hx => by
    rw [List.mem_map] at hx
    obtain ⟨e, he, rfl⟩ := hx
    obtain ⟨j, hj⟩ := List.getElem?_of_mem he
    exact w.2.1 j e hj)
  rwa [List.length_map] at this
/-- the clauses on the way to a place -/
def pth (E : List Ent) : Nat → Nat → List Nat
  | 0, _ => []
  | n + 1, j => if j = 0 then [] else match E[j]? with
    | some e => pth E n e.2.1 ++ [e.2.2]
    | none => []
