/-! ===== bits ===== -/
theorem zs31 : ∀ n, n < 32 → ((nI n &&& 31).toBitVec.smod 32).toNat = n := by decide +kernel
theorem zb_shr {m c : Nat} (hm : m < 2 ^ 31) (hc : c < 31) : nI m >>> (nI c &&& 31) = nI (m / 2 ^ c) := pk_shrN hm _ c (zs31 c (by omega))
theorem zb_and1 {m : Nat} (hm : m < 2 ^ 32) : nI m &&& nI 1 = nI (m % 2) := by
  have h := pk_andN hm (m := nI 1) 1 (by decide)
  rw [h]
theorem zb_bit {m c : Nat} (hm : m < 2 ^ 31) (hc : c < 31) : (nI m >>> (nI c &&& 31)) &&& nI 1 = nI (m / 2 ^ c % 2) := by
  have : m / 2 ^ c < 2 ^ 32 := Nat.lt_of_le_of_lt (Nat.div_le_self _ _) (by omega)
  rw [zb_shr hm hc, zb_and1 this]
theorem zb_shl1 {c : Nat} (hc : c < 31) : nI 1 <<< (nI c &&& 31) = nI (2 ^ c) := by
  have h2 : 2 ^ c < 2 ^ 31 := Nat.pow_lt_pow_right (by decide) hc
  have h := pk_shlN (n := 1) (nI c &&& 31) c (zs31 c (by omega)) (by omega)
  rw [h, Nat.one_mul]
theorem zb_or {b c : Nat} (hb : b < 2 ^ c) (hc : c < 31) : nI b ||| (nI 1 <<< (nI c &&& 31)) = nI (b + 2 ^ c) := by
  rw [zb_shl1 hc]
  have h2 : 2 ^ c < 2 ^ 31 := Nat.pow_lt_pow_right (by decide) hc
  apply Int32.toBitVec_inj.mp
  apply BitVec.eq_of_toNat_eq
  rw [Int32.toBitVec_or, BitVec.toNat_or, pk_tn (by omega), pk_tn (by omega), pk_tn (by omega)]
  have h := Nat.two_pow_add_eq_or_of_lt hb 1
  rw [Nat.mul_one] at h
  rw [Nat.or_comm, ← h, Nat.add_comm]
def sumN (f : Nat → Nat) : Nat → Nat
  | 0 => 0
  | n + 1 => sumN f n + f n
def bitN (m c : Nat) : Nat := m / 2 ^ c % 2
def bitsN (p : Nat → Bool) : Nat → Nat
  | 0 => 0
  | n + 1 => if p n = true then bitsN p n + 2 ^ n else bitsN p n
theorem bitsN_lt (p : Nat → Bool) : ∀ n, bitsN p n < 2 ^ n
  | 0 => Nat.one_pos
  | n + 1 => by
    have h := bitsN_lt p n
    have h2 : 2 ^ (n + 1) = 2 ^ n + 2 ^ n := by rw [Nat.pow_succ]; omega
    unfold bitsN
    split <;> omega
