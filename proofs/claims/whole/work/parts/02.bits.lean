/-! Int32 by its bits: bt x i (the first family of the kit's to-paste rows), and one bit of a mask. -/
def bt (x : Int32) (i : Nat) : Bool := x.toBitVec.getLsbD i
theorem b_ext {x y : Int32} (h : ∀ i, i < 32 → bt x i = bt y i) : x = y := Int32.toBitVec_inj.mp (BitVec.eq_of_getLsbD_eq (fun i hi => h i hi))
theorem b_or (x y : Int32) (i : Nat) : bt (x ||| y) i = (bt x i || bt y i) := by unfold bt; rw [Int32.toBitVec_or, BitVec.getLsbD_or]
theorem b_and (x y : Int32) (i : Nat) : bt (x &&& y) i = (bt x i && bt y i) := by unfold bt; rw [Int32.toBitVec_and, BitVec.getLsbD_and]
theorem b_xor (x y : Int32) (i : Nat) : bt (x ^^^ y) i = (bt x i ^^ bt y i) := by unfold bt; rw [Int32.toBitVec_xor, BitVec.getLsbD_xor]
theorem b_big {x : Int32} {i : Nat} (h : 32 ≤ i) : bt x i = false := BitVec.getLsbD_of_ge _ _ h
theorem b_255 (i : Nat) : bt 255 i = decide (i < 8) := by
  rcases Nat.lt_or_ge i 32 with h | h
  · exact (by decide +kernel : ∀ i, i < 32 → bt 255 i = decide (i < 8)) i h
  · rw [b_big h, decide_eq_false (by omega)]
theorem b_65535 (i : Nat) : bt 65535 i = decide (i < 16) := by
  rcases Nat.lt_or_ge i 32 with h | h
  · exact (by decide +kernel : ∀ i, i < 32 → bt 65535 i = decide (i < 16)) i h
  · rw [b_big h, decide_eq_false (by omega)]
theorem b_m1 : ∀ i, i < 32 → bt (-1) i = true := by decide +kernel
theorem b_0 (i : Nat) : bt 0 i = false := BitVec.getLsbD_zero
theorem s_l : ∀ n, n < 32 → ((nI n &&& 31).toBitVec.smod 32).toNat = n := by decide +kernel
theorem s_u : ∀ n, n < 32 → (((nI n).toUInt32 &&& Int32.toUInt32 31).toBitVec % 32).toNat = n := by decide +kernel
theorem b_shl (n : Nat) (hn : n < 32) (x : Int32) {i : Nat} (hi : i < 32) : bt (x <<< (nI n &&& 31)) i = (decide (n ≤ i) && bt x (i - n)) := by
  unfold bt
  rw [Int32.toBitVec_shiftLeft]
  show (x.toBitVec <<< ((nI n &&& 31).toBitVec.smod 32).toNat).getLsbD i = _
  rw [s_l n hn, BitVec.getLsbD_shiftLeft]
  rcases Nat.lt_or_ge i n with h | h
  · simp [h, Nat.not_le.mpr h]
  · simp [hi, h, Nat.not_lt.mpr h]
theorem b_ushr (n : Nat) (hn : n < 32) (x : Int32) (i : Nat) : bt ((x.toUInt32 >>> ((nI n).toUInt32 &&& Int32.toUInt32 31)).toInt32) i = bt x (n + i) := by
  show (x.toUInt32 >>> ((nI n).toUInt32 &&& Int32.toUInt32 31)).toBitVec.getLsbD i = x.toUInt32.toBitVec.getLsbD (n + i)
  rw [UInt32.toBitVec_shiftRight]
  show (x.toUInt32.toBitVec >>> (((nI n).toUInt32 &&& Int32.toUInt32 31).toBitVec % 32).toNat).getLsbD i = _
  rw [s_u n hn, BitVec.getLsbD_ushiftRight]
theorem b_sshr (n : Nat) (hn : n < 32) (x : Int32) {i : Nat} (hi : i < 32) : bt (x >>> (nI n &&& 31)) i = if n + i < 32 then bt x (n + i) else bt x 31 := by
  unfold bt
  rw [Int32.toBitVec_shiftRight]
  show (x.toBitVec.sshiftRight ((nI n &&& 31).toBitVec.smod 32).toNat).getLsbD i = _
  rw [s_l n hn, BitVec.getLsbD_sshiftRight, BitVec.msb_eq_getLsbD_last]
  simp [hi]
theorem tb_one (t : Nat) (ht : t < 32) (j : Nat) (hj : j < 32) : bt ((1 : Int32) <<< (nI t &&& 31)) j = decide (j = t) :=
  (by decide +kernel : ∀ t, t < 32 → ∀ j, j < 32 → bt ((1 : Int32) <<< (nI t &&& 31)) j = decide (j = t)) t ht j hj
theorem tb_and {x : Int32} {t : Nat} (ht : t < 32) : (x &&& ((1 : Int32) <<< (nI t &&& 31))) = 0 ↔ bt x t = false := by
  constructor
  · intro h
    have h1 := congrArg (fun y => bt y t) h
    simp only [b_and, b_0, tb_one t ht t ht] at h1
    simpa using h1
  · intro h
    apply b_ext
    intro i hi
    rw [b_and, b_0, tb_one t ht i hi]
    by_cases e : i = t
    · subst e
      simp [h]
    · simp [e]
theorem tb_or {x : Int32} {t : Nat} (ht : t < 32) {j : Nat} (hj : j < 32) : bt (x ||| ((1 : Int32) <<< (nI t &&& 31))) j = (bt x j || decide (j = t)) := by
  rw [b_or, tb_one t ht j hj]
theorem tb_clr {x : Int32} {t : Nat} (ht : t < 32) {j : Nat} (hj : j < 32) : bt (x &&& (((1 : Int32) <<< (nI t &&& 31)) ^^^ (-1))) j = (bt x j && !decide (j = t)) := by
  rw [b_and, b_xor, tb_one t ht j hj, b_m1 j hj]
  simp
theorem tb_zero {x : Int32} : x = 0 ↔ ∀ j, j < 32 → bt x j = false := by
  constructor
  · intro h j hj
    rw [h, b_0]
  · intro h
    apply b_ext
    intro i hi
    rw [h i hi, b_0]
theorem tb_oth {x : Int32} {t : Nat} (ht : t < 32) : (x &&& (((1 : Int32) <<< (nI t &&& 31)) ^^^ (-1))) = 0 ↔ ∀ j, j < 32 → j ≠ t → bt x j = false := by
  rw [tb_zero]
  constructor
  · intro h j hj hne
    have h1 := h j hj
    rw [tb_clr ht hj] at h1
    simpa [hne] using h1
  · intro h j hj
    rw [tb_clr ht hj]
    by_cases e : j = t
    · simp [e]
    · rw [h j hj e]
      rfl
