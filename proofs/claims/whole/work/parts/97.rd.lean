/-! how a formula is read -/
abbrev Qs : Type := Nat × Nat × Nat × Nat × List (Int32 × Int32)
abbrev qi (q : Qs) : Nat := q.1
abbrev qf (q : Qs) : Nat := q.2.1
abbrev qu (q : Qs) : Nat := q.2.2.1
abbrev qo (q : Qs) : Nat := q.2.2.2.1
abbrev qs (q : Qs) : List (Int32 × Int32) := q.2.2.2.2
def bad (x : Txt) (c : Nat) (q : Qs) : Qs := (qi q, if tkK (tks x (qi q)) = 1 then 1 else c, qu q, qo q, qs q)
def stq (q : Qs) : Qs := (qi q + 1, qf q, qu q, qo q, qs q)
def emt (a : Int32 × Int32) (q : Qs) : Qs := if qf q = 0 then (qi q, qf q, qu q, qo q, qs q ++ [a]) else q
def tg (t : Tk) : Nat :=
  if tkK t = 2 then (if tkW t = 28530 then 1 else if tkW t = 6385252 then 2 else 0)
  else if tkK t = 4 then (if tkV t = 60 ∨ tkV t = 62 ∨ tkV t = 61 then 4 else if tkV t = 43 ∨ tkV t = 45 then 5 else if tkV t = 42 ∨ tkV t = 47 ∨ tkV t = 37 then 6 else 0)
  else 0
def sg (t : Tk) : Int32 := if tkK t = 2 then (if tkW t = 28530 then 124 else 38) else nI (tkV t)
def isr (w : Int64) : Bool := rsv.any (fun a => a == w)
def nam (t : Tk) : Bool := tkK t == 2 && !isr (tkW t)
def isN (t : Tk) : Bool := tkK t == 2 && tkW t == 7237492
def isS (t : Tk) (c : Nat) : Bool := tkK t == 4 && tkV t == c
def fnd : List Int64 → Int64 → Nat
  | [], _ => 0
  | a :: r, w => if a = w then 0 else fnd r w + 1
def nxl (l : Nat) : Nat := if l = 2 then 3 else l + 1
/-- a unit: what is read within brackets is g's -/
def rdu (x : Txt) (N : List Int64) (d : Nat) (g : Qs → Qs) (q : Qs) : Qs :=
  if 30 ≤ qo q ∨ 120 ≤ qu q then bad x 2 q
  else if tkK (tks x (qi q)) = 3 then (qi q + 1, 0, qu q + 1, qo q + 1, qs q ++ [(0, nI (tkV (tks x (qi q))))])
  else if isS (tks x (qi q)) 40 = true then
    (if 6 < d then bad x 2 q
     else if ¬ qf (g (qi q + 1, 0, qu q + 1, qo q + 1, qs q)) = 0 then g (qi q + 1, 0, qu q + 1, qo q + 1, qs q)
     else if isS (tks x (qi (g (qi q + 1, 0, qu q + 1, qo q + 1, qs q)))) 41 = true then stq (g (qi q + 1, 0, qu q + 1, qo q + 1, qs q))
     else bad x 2 (g (qi q + 1, 0, qu q + 1, qo q + 1, qs q)))
  else if nam (tks x (qi q)) = false then bad x 2 q
  else if fnd N (tkW (tks x (qi q))) < N.length then (qi q + 1, 0, qu q + 1, qo q + 1, qs q ++ [(1, nI (fnd N (tkW (tks x (qi q)))))])
  else bad x 5 q
/-- a relation behind a sum -/
def rdr (x : Txt) (g : Qs → Qs) (r : Qs) : Qs := if qf r = 0 ∧ tg (tks x (qi r)) = 4 then emt (3, sg (tks x (qi r))) (g (stq r)) else r
def rd (x : Txt) (N : List Int64) : Nat → Nat → Nat → Qs → Qs
  | 0, _, _, q => (qi q, 99, qu q, qo q, qs q)
  | f + 1, l, d, q =>
    if ¬ qf q = 0 then q
    else if l = 7 then rdu x N d (rd x N f 1 (d + 1)) q
    else if l = 3 then (if isN (tks x (qi q)) = true then (if 6 < d then bad x 2 q else emt (2, 0) (rd x N f 3 (d + 1) (stq q))) else rdr x (rd x N f 5 d) (rd x N f 5 d q))
    else if 10 ≤ l then (if tg (tks x (qi q)) + 10 = l then rd x N f l d (emt (3, sg (tks x (qi q))) (rd x N f (nxl (l - 10)) d (stq q))) else q)
    else rd x N f (l + 10) d (rd x N f (nxl l) d q)
theorem rd_stop {x : Txt} {N : List Int64} {f l d : Nat} {q : Qs} (h : ¬ qf q = 0) : rd x N (f + 1) l d q = q := by
  unfold rd
  rw [if_pos h]
theorem rd_7 {x : Txt} {N : List Int64} {f d : Nat} {q : Qs} (h : qf q = 0) : rd x N (f + 1) 7 d q = rdu x N d (rd x N f 1 (d + 1)) q := by
  conv => lhs; unfold rd
  rw [if_neg (fun z => z h), if_pos rfl]
theorem rd_3 {x : Txt} {N : List Int64} {f d : Nat} {q : Qs} (h : qf q = 0) : rd x N (f + 1) 3 d q = if isN (tks x (qi q)) = true then (if 6 < d then bad x 2 q else emt (2, 0) (rd x N f 3 (d + 1) (stq q))) else rdr x (rd x N f 5 d) (rd x N f 5 d q) := by
  conv => lhs; unfold rd
  rw [if_neg (fun z => z h), if_neg (by decide), if_pos rfl]
theorem rd_lp {x : Txt} {N : List Int64} {f l d : Nat} {q : Qs} (h : qf q = 0) (hl : 10 ≤ l) : rd x N (f + 1) l d q = if tg (tks x (qi q)) + 10 = l then rd x N f l d (emt (3, sg (tks x (qi q))) (rd x N f (nxl (l - 10)) d (stq q))) else q := by
  conv => lhs; unfold rd
  rw [if_neg (fun z => z h), if_neg (by omega), if_neg (by omega), if_pos hl]
theorem rd_lv {x : Txt} {N : List Int64} {f l d : Nat} {q : Qs} (h : qf q = 0) (h7 : ¬ l = 7) (h3 : ¬ l = 3) (hl : ¬ 10 ≤ l) : rd x N (f + 1) l d q = rd x N f (l + 10) d (rd x N f (nxl l) d q) := by
  conv => lhs; unfold rd
  rw [if_neg (fun z => z h), if_neg h7, if_neg h3, if_neg hl]
theorem emt_i (a : Int32 × Int32) (q : Qs) : qi (emt a q) = qi q := by
  unfold emt
  by_cases c : qf q = 0
  · rw [if_pos c]
  · rw [if_neg c]
theorem emt_f (a : Int32 × Int32) (q : Qs) : qf (emt a q) = qf q := by
  unfold emt
  by_cases c : qf q = 0
  · rw [if_pos c]
  · rw [if_neg c]
theorem emt_0 {a : Int32 × Int32} {q : Qs} (c : qf q = 0) : emt a q = (qi q, 0, qu q, qo q, qs q ++ [a]) := by
  unfold emt
  rw [if_pos c, c]
theorem rd_mono {x : Txt} {N : List Int64} : ∀ f l d q, qi q ≤ qi (rd x N f l d q) := by
  intro f
  induction f with
  | zero => intro l d q; exact Nat.le_refl _
  | succ f ih =>
    intro l d q
    by_cases h : qf q = 0
    · by_cases h7 : l = 7
      · subst h7
        rw [rd_7 h]
        unfold rdu
        have g := ih 1 (d + 1) (qi q + 1, 0, qu q + 1, qo q + 1, qs q)
        have g : qi q + 1 ≤ qi (rd x N f 1 (d + 1) (qi q + 1, 0, qu q + 1, qo q + 1, qs q)) := g
        repeat' split
        all_goals first
          | exact Nat.le_refl _
          | exact Nat.le_succ _
          | (show qi q ≤ qi (rd x N f 1 (d + 1) (qi q + 1, 0, qu q + 1, qo q + 1, qs q)); omega)
          | (show qi q ≤ qi (rd x N f 1 (d + 1) (qi q + 1, 0, qu q + 1, qo q + 1, qs q)) + 1; omega)
      · by_cases h3 : l = 3
        · subst h3
          rw [rd_3 h]
          by_cases c : isN (tks x (qi q)) = true
          · rw [if_pos c]
            by_cases c2 : 6 < d
            · rw [if_pos c2]; exact Nat.le_refl _
            · rw [if_neg c2, emt_i]
              have g : qi q + 1 ≤ _ := ih 3 (d + 1) (stq q)
              omega
          · rw [if_neg c]
            have g := ih 5 d q
            unfold rdr
            by_cases c2 : qf (rd x N f 5 d q) = 0 ∧ tg (tks x (qi (rd x N f 5 d q))) = 4
            · rw [if_pos c2, emt_i]
              have g2 : qi (rd x N f 5 d q) + 1 ≤ _ := ih 5 d (stq (rd x N f 5 d q))
              omega
            · rw [if_neg c2]; exact g
        · by_cases hl : 10 ≤ l
          · rw [rd_lp h hl]
            by_cases c : tg (tks x (qi q)) + 10 = l
            · rw [if_pos c]
              have g1 : qi q + 1 ≤ _ := ih (nxl (l - 10)) d (stq q)
              have g2 := ih l d (emt (3, sg (tks x (qi q))) (rd x N f (nxl (l - 10)) d (stq q)))
              rw [emt_i] at g2
              omega
            · rw [if_neg c]; exact Nat.le_refl _
          · rw [rd_lv h h7 h3 hl]
            exact Nat.le_trans (ih (nxl l) d q) (ih (l + 10) d _)
    · rw [rd_stop h]; exact Nat.le_refl _
