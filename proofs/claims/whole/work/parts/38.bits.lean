/-! bits -/
def tbt (x : Int32) (c : Nat) : Bool := x.toBitVec.getLsbD c
theorem sm31 {c : Nat} (hc : c < 32) : ((nI c &&& 31).toBitVec.smod 32).toNat = c := by
  have : ∀ j : Fin 32, ((nI j.val &&& 31).toBitVec.smod 32).toNat = j.val := by decide +kernel
  exact this ⟨c, hc⟩
theorem tbt_hi {x : Int32} {c : Nat} (hc : 32 ≤ c) : tbt x c = false := BitVec.getLsbD_of_ge _ _ hc
theorem tbt_ext {x y : Int32} (h : ∀ c, c < 32 → tbt x c = tbt y c) : x = y := by
  apply Int32.toBitVec_inj.mp
  apply BitVec.eq_of_getLsbD_eq
  exact fun i hi => h i hi
theorem tbt_and (x y : Int32) (c : Nat) : tbt (x &&& y) c = (tbt x c && tbt y c) := by unfold tbt; simp
theorem tbt_or (x y : Int32) (c : Nat) : tbt (x ||| y) c = (tbt x c || tbt y c) := by unfold tbt; simp
theorem tbt_xor (x y : Int32) (c : Nat) : tbt (x ^^^ y) c = (tbt x c != tbt y c) := by unfold tbt; simp
theorem tbt_0 (c : Nat) : tbt 0 c = false := by unfold tbt; simp
theorem tbt_m1 {c : Nat} (hc : c < 32) : tbt (-1) c = true := by
  have : ∀ j : Fin 32, tbt (-1) j.val = true := by decide +kernel
  exact this ⟨c, hc⟩
theorem tbt_nI (n c : Nat) : tbt (nI n) c = (decide (c < 32) && n.testBit c) := by
  show (BitVec.ofNat 32 n).getLsbD c = _
  rw [BitVec.getLsbD_ofNat]
theorem tbt_one {c i : Nat} (hc : c < 31) (hi : i < 32) : tbt (one c) i = decide (i = c) := by
  have : ∀ (j : Fin 31) (i : Fin 32), tbt (one j.val) i.val = decide (i.val = j.val) := by decide +kernel
  exact this ⟨c, hc⟩ ⟨i, hi⟩
theorem bit_tb (x : Int32) {c : Nat} (hc : c < 32) : bit x c = b2i (tbt x c) := by
  unfold bit
  apply Int32.toBitVec_inj.mp
  have e : (x >>> (nI c &&& 31)).toBitVec = x.toBitVec.sshiftRight c := by
    rw [Int32.toBitVec_shiftRight]
    show x.toBitVec.sshiftRight ((nI c &&& 31).toBitVec.smod 32).toNat = _
    rw [sm31 hc]
  apply BitVec.eq_of_getLsbD_eq
  intro i hi
  rw [Int32.toBitVec_and, BitVec.getLsbD_and, e]
  have h1 : (1 : Int32).toBitVec = 1#32 := rfl
  rw [h1, BitVec.getLsbD_one]
  by_cases q : i = 0
  · subst q
    rw [BitVec.getLsbD_sshiftRight]
    have z : ¬ (32 ≤ 0) := by omega
    have z2 : c + 0 < 32 := by omega
    simp only [z2]
    unfold tbt b2i
    cases x.toBitVec.getLsbD c <;> simp
  · have : (b2i (tbt x c)).toBitVec.getLsbD i = false := by
      unfold b2i
      cases tbt x c
      · simp
      · simp [h1, BitVec.getLsbD_one, q]
    rw [this]
    simp [q]
theorem bit_0 (x : Int32) {c : Nat} (hc : c < 32) : bit x c = 0 ↔ tbt x c = false := by
  rw [bit_tb x hc]; cases tbt x c <;> simp [b2i]
theorem bit_1 (x : Int32) {c : Nat} (hc : c < 32) : bit x c = 1 ↔ tbt x c = true := by
  rw [bit_tb x hc]; cases tbt x c <;> simp [b2i]
theorem tbt_lt {n c i : Nat} (hn : n < 2 ^ c) (hi : c ≤ i) : tbt (nI n) i = false := by
  rw [tbt_nI, Nat.testBit_lt_two_pow (Nat.lt_of_lt_of_le hn (Nat.pow_le_pow_right (by omega) hi)), Bool.and_false]
theorem and_z {x y : Int32} : x &&& y = 0 ↔ ∀ c, c < 32 → (tbt x c && tbt y c) = false := by
  constructor
  · intro h c hc
    rw [← tbt_and, h, tbt_0]
  · intro h
    exact tbt_ext (fun c hc => by rw [tbt_and, h c hc, tbt_0])
theorem andc (x y : Int32) : x &&& y = y &&& x := tbt_ext (fun c _ => by rw [tbt_and, tbt_and, Bool.and_comm])
theorem anda (x y z : Int32) : x &&& y &&& z = x &&& (y &&& z) := tbt_ext (fun c _ => by simp only [tbt_and, Bool.and_assoc])
/-- a set of clauses is a number below 2^c -/
theorem tbt_nat {x : Int32} {c : Nat} (hc : c ≤ 12) (h : ∀ i, c ≤ i → i < 32 → tbt x i = false) : ∃ n, n < 2 ^ c ∧ x = nI n := by
  refine ⟨x.toBitVec.toNat, ?_, ?_⟩
  · apply Nat.lt_pow_two_of_testBit
    intro i hi
    by_cases q : i < 32
    · have := h i hi q
      unfold tbt BitVec.getLsbD at this
      exact this
    · exact Nat.testBit_lt_two_pow (Nat.lt_of_lt_of_le x.toBitVec.isLt (Nat.pow_le_pow_right (by omega) (by omega)))
  · apply Int32.toBitVec_inj.mp
    show x.toBitVec = BitVec.ofNat 32 x.toBitVec.toNat
    simp
