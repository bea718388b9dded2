/-! bytes of longs and ints -/
/-- byte i of a long, from the lowest -/
def byteN (n : Int64) (i : Nat) : Nat := n.toBitVec.toNat / 2 ^ (8 * i) % 256
/-- byte i of an int, from the lowest -/
def byteI (n : Int32) (i : Nat) : Nat := n.toBitVec.toNat / 2 ^ (8 * i) % 256
theorem byteN_lt (n : Int64) (i : Nat) : byteN n i < 256 := Nat.mod_lt _ (by decide)
theorem byteI_lt (n : Int32) (i : Nat) : byteI n i < 256 := Nat.mod_lt _ (by decide)
theorem bit_mod (x k j : Nat) : (x / 2 ^ k % 256).testBit j = (decide (j < 8) && x.testBit (k + j)) := by
  rw [show (256 : Nat) = 2 ^ 8 from rfl, Nat.testBit_mod_two_pow, ← Nat.shiftRight_eq_div_pow, Nat.testBit_shiftRight]
theorem bv_sshr (x : BitVec 64) {k : Nat} (hk : k ≤ 56) : (x.sshiftRight k).toNat % 256 = x.toNat / 2 ^ k % 256 := by
  apply Nat.eq_of_testBit_eq
  intro j
  rw [bit_mod, show (x.sshiftRight k).toNat % 256 = (x.sshiftRight k).toNat / 2 ^ 0 % 256 by simp, bit_mod]
  by_cases hj : j < 8
  · simp only [hj, decide_true, Bool.true_and, Nat.zero_add]
    rw [← BitVec.getLsbD, BitVec.getLsbD_sshiftRight, ← BitVec.getLsbD]
    simp [show ¬ 64 ≤ j by omega, show k + j < 64 by omega]
  · simp [hj]
theorem bv_sshr32 (x : BitVec 32) {k : Nat} (hk : k ≤ 24) : (x.sshiftRight k).toNat % 256 = x.toNat / 2 ^ k % 256 := by
  apply Nat.eq_of_testBit_eq
  intro j
  rw [bit_mod, show (x.sshiftRight k).toNat % 256 = (x.sshiftRight k).toNat / 2 ^ 0 % 256 by simp, bit_mod]
  by_cases hj : j < 8
  · simp only [hj, decide_true, Bool.true_and, Nat.zero_add]
    rw [← BitVec.getLsbD, BitVec.getLsbD_sshiftRight, ← BitVec.getLsbD]
    simp [show ¬ 32 ≤ j by omega, show k + j < 32 by omega]
  · simp [hj]
theorem i_255 (x : Int32) : x &&& 255 = nI (x.toBitVec.toNat % 256) := pk_and x 8 (by decide)
theorem l_shr (n : Int64) (s : Int64) {k : Nat} (hs : (s.toBitVec.smod 64).toNat = k) (hk : k ≤ 56) : (n >>> s).toBitVec.toNat % 256 = n.toBitVec.toNat / 2 ^ k % 256 := by
  rw [Int64.toBitVec_shiftRight, BitVec.sshiftRight', hs]
  exact bv_sshr _ hk
theorem l_32 (n : Int64) : n.toInt32.toBitVec.toNat % 256 = n.toBitVec.toNat % 256 := by
  have h : n.toInt32.toBitVec = n.toBitVec.signExtend 32 := rfl
  rw [h, BitVec.signExtend_eq_setWidth_of_le _ (by decide), BitVec.toNat_setWidth]
  omega
theorem l_b1 (n s : Int64) (i : Nat) (hs : (s.toBitVec.smod 64).toNat = 8 * i) (hi : i < 8) : (n >>> s).toInt32 &&& 255 = nI (byteN n i) := by
  rw [i_255, l_32, l_shr n s hs (by omega)]
  rfl
theorem l_b2 (n s : Int64) (i : Nat) (hs : (s.toBitVec.smod 64).toNat = 8 * i) (hi : i < 8) : ((n >>> s) &&& 255).toInt32 = nI (byteN n i) := by
  have h1 : ((n >>> s) &&& 255).toBitVec.toNat = byteN n i := by
    rw [Int64.toBitVec_and, BitVec.toNat_and, show (255 : Int64).toBitVec.toNat = 2 ^ 8 - 1 from by decide, Nat.and_two_pow_sub_one_eq_mod, show (2 : Nat) ^ 8 = 256 from rfl, l_shr n s hs (by omega)]
    rfl
  apply Int32.toBitVec_inj.mp
  apply BitVec.eq_of_toNat_eq
  have h : ((n >>> s) &&& 255).toInt32.toBitVec = ((n >>> s) &&& 255).toBitVec.signExtend 32 := rfl
  rw [h, BitVec.signExtend_eq_setWidth_of_le _ (by decide), BitVec.toNat_setWidth, h1, pk_tn (by have := byteN_lt n i; omega)]
  have := byteN_lt n i
  omega
theorem i_b3 (n s : Int32) (i : Nat) (hs : (s.toBitVec.smod 32).toNat = 8 * i) (hi : i < 4) : (n >>> s) &&& 255 = nI (byteI n i) := by
  rw [i_255, Int32.toBitVec_shiftRight, BitVec.sshiftRight', hs, bv_sshr32 _ (by omega)]
  rfl
/-- the bytes of an int are those of the long that it becomes -/
theorem byteI_l (n : Int32) (i : Nat) (hi : i < 4) : byteN n.toInt64 i = byteI n i := by
  unfold byteN byteI
  have h : n.toInt64.toBitVec = n.toBitVec.signExtend 64 := rfl
  rw [h]
  apply Nat.eq_of_testBit_eq
  intro j
  rw [bit_mod, bit_mod]
  by_cases hj : j < 8
  · simp only [hj, decide_true, Bool.true_and]
    rw [← BitVec.getLsbD, ← BitVec.getLsbD, BitVec.getLsbD_signExtend]
    simp [show 8 * i + j < 64 by omega, show 8 * i + j < 32 by omega]
  · simp [hj]
/-- the lowest c bytes of a long, the highest first -/
def beL (n : Int64) : Nat → List Nat
  | 0 => []
  | c + 1 => byteN n c :: beL n c
theorem beL_len (n : Int64) : ∀ c, (beL n c).length = c
  | 0 => rfl
  | c + 1 => by rw [beL, List.length_cons, beL_len n c]
theorem beL_lt (n : Int64) : ∀ c, ∀ b ∈ beL n c, b < 256
  | 0, b, h => by cases h
  | c + 1, b, h => by
    rcases List.mem_cons.mp h with rfl | h
    · exact byteN_lt n c
    · exact beL_lt n c b h
/-- the number of a row of bytes -/
def beV (l : List Nat) : Nat := l.foldl (fun n b => n * 256 + b) 0
theorem beV_app (l : List Nat) (b : Nat) : beV (l ++ [b]) = beV l * 256 + b := by simp [beV]
theorem beV_lt0 : ∀ (l : List Nat) (a : Nat), (∀ b ∈ l, b < 256) → l.foldl (fun n b => n * 256 + b) a < (a + 1) * 256 ^ l.length
  | [], a, _ => by simp
  | b :: l, a, h => by
    have h1 := beV_lt0 l (a * 256 + b) (fun x hx => h x (List.mem_cons_of_mem _ hx))
    have h2 := h b List.mem_cons_self
    rw [List.foldl_cons, List.length_cons, Nat.pow_succ]
    refine Nat.lt_of_lt_of_le h1 ?_
    rw [Nat.mul_comm (256 ^ l.length) 256, ← Nat.mul_assoc]
    exact Nat.mul_le_mul_right _ (by omega)
theorem beV_lt (l : List Nat) (h : ∀ b ∈ l, b < 256) : beV l < 256 ^ l.length := by
  have := beV_lt0 l 0 h
  rw [Nat.zero_add, Nat.one_mul] at this
  exact this
/-- a row of bytes and the bytes of its number -/
theorem beL_mod (n : Nat) : ∀ (c i : Nat), i < c → (beL (lN n) c).getD i 0 = (lN n).toBitVec.toNat / 2 ^ (8 * (c - 1 - i)) % 256
  | 0, i, h => by omega
  | c + 1, 0, _ => by simp [beL, byteN]
  | c + 1, i + 1, h => by
    rw [beL, List.getD_cons_succ, beL_mod n c i (by omega), show c + 1 - 1 - (i + 1) = c - 1 - i by omega]
